/-! the law's words, on -/
set_option maxRecDepth 20000 in
theorem ggL_does_L_low : GoodIn wsL_does wsL_low := goodIn_r _ [4, 5] (by decide +kernel) (by decide +kernel)
set_option maxRecDepth 20000 in
theorem gL_does_L_low : GoodIn wsL_does (va_wsS RL 8 yL_low wsL_low) := goodIn_app (goodIn_of _ (by decide +kernel)) ggL_does_L_low
set_option maxRecDepth 20000 in
theorem ggL_does_X9_whole : GoodIn wsL_does wsX9_whole := goodIn_ca (goodIn_r _ [10, 11, 12, 13, 14, 15, 16, 17, 18, 19, 20, 21, 22, 23, 24, 25, 26, 27, 28, 29, 30, 31, 32, 33, 34, 35, 36, 37, 38, 39, 40, 41, 42, 43, 44, 45, 9, 46, 47, 48, 49, 295, 296, 297, 298, 299, 300, 301, 302, 303, 304, 305, 306, 307, 308, 309, 310, 311, 312, 313, 314, 315, 316, 317, 318, 319, 320, 321, 322, 323, 324, 325, 326, 327, 328] (by decide +kernel) (by decide +kernel)) (goodIn_sub (fun _ h => List.mem_cons_of_mem _ (List.mem_append_left _ (List.mem_append_left _ (List.mem_append_right _ h)))) (by decide +kernel))
set_option maxRecDepth 20000 in
theorem gL_does_X9_whole : GoodIn wsL_does (wsV RL 14 RX9 yX9_whole wsX9_whole) := goodIn_app (goodIn_of _ (by decide +kernel)) ggL_does_X9_whole
set_option maxRecDepth 20000 in
theorem ggL_does_X9_addSnow_c : GoodIn wsL_does [.code yX9_addSnow cX9_addSnow 2 (some .int)] := goodIn_r [.code yX9_addSnow cX9_addSnow 2 (some .int)] [53] (by decide +kernel) (by decide +kernel)
set_option maxRecDepth 20000 in
theorem ggL_does_X9_addSnow_s1 : GoodIn wsL_does wsX9_addSnow_r1 := goodIn_r wsX9_addSnow_r1 [54, 13, 14, 55, 56, 57, 9, 58, 59, 60, 61, 62, 63, 64, 65, 66, 11, 12, 67, 68, 69, 70, 71, 72] (by decide +kernel) (by decide +kernel)
set_option maxRecDepth 20000 in
theorem ggL_does_X9_addSnow_s2 : GoodIn wsL_does wsX9_addSnow_r2 := goodIn_r wsX9_addSnow_r2 [73, 74, 75, 76, 77, 78, 79, 80, 81, 82, 83, 84, 85, 86, 87, 88, 89, 90, 91, 92, 93, 94, 95, 96] (by decide +kernel) (by decide +kernel)
set_option maxRecDepth 20000 in
theorem ggL_does_X9_addSnow_s3 : GoodIn wsL_does wsX9_addSnow_r3 := goodIn_r wsX9_addSnow_r3 [97, 98, 99, 100, 101, 102, 103, 104, 105, 33, 106, 35, 107, 108, 109, 110, 44, 111, 112, 113, 114, 115, 116, 117] (by decide +kernel) (by decide +kernel)
set_option maxRecDepth 20000 in
theorem ggL_does_X9_addSnow_s4 : GoodIn wsL_does wsX9_addSnow_r4 := goodIn_r wsX9_addSnow_r4 [118, 119, 120, 121, 122, 123, 124, 125, 126, 127, 128, 129, 130] (by decide +kernel) (by decide +kernel)
set_option maxRecDepth 20000 in
theorem ggL_does_X9_addSnow_s5 : GoodIn wsL_does wsX90 := goodIn_r wsX90 [295, 296, 297, 298, 299] (by decide +kernel) (by decide +kernel)
set_option maxRecDepth 20000 in
theorem ggL_does_X9_addSnow_s6 : GoodIn wsL_does wsX50 := goodIn_r wsX50 [300, 301, 302, 303, 304, 305, 306, 307, 308, 309] (by decide +kernel) (by decide +kernel)
set_option maxRecDepth 20000 in
theorem ggL_does_X9_addSnow_s7 : GoodIn wsL_does wsX70 := goodIn_r wsX70 [329, 330, 331] (by decide +kernel) (by decide +kernel)
set_option maxRecDepth 20000 in
theorem ggL_does_X9_addSnow_s8 : GoodIn wsL_does wsX40 := goodIn_r wsX40 [310, 311, 312, 313, 314, 315, 316] (by decide +kernel) (by decide +kernel)
set_option maxRecDepth 20000 in
theorem ggL_does_X9_addSnow_s9 : GoodIn wsL_does wsX60 := goodIn_r wsX60 [317, 318, 319, 320] (by decide +kernel) (by decide +kernel)
set_option maxRecDepth 20000 in
theorem ggL_does_X9_addSnow_s10 : GoodIn wsL_does wsX10 := goodIn_r wsX10 [321, 322] (by decide +kernel) (by decide +kernel)
set_option maxRecDepth 20000 in
theorem ggL_does_X9_addSnow : GoodIn wsL_does wsX9_addSnow := goodIn_ca (goodIn_ca (goodIn_ca (goodIn_app (a := [.code yX9_addSnow cX9_addSnow 2 (some .int)]) ggL_does_X9_addSnow_c (goodIn_app (goodIn_app (goodIn_app (goodIn_app (goodIn_app (goodIn_app (goodIn_app ggL_does_X9_addSnow_s1 (goodIn_app ggL_does_X9_addSnow_s2 (goodIn_app ggL_does_X9_addSnow_s3 ggL_does_X9_addSnow_s4))) ggL_does_X9_addSnow_s5) ggL_does_X9_addSnow_s6) ggL_does_X9_addSnow_s7) ggL_does_X9_addSnow_s8) ggL_does_X9_addSnow_s9) ggL_does_X9_addSnow_s10)) (goodIn_sub (fun _ h => List.mem_cons_of_mem _ (List.mem_append_left _ (List.mem_append_right _ h))) (by decide +kernel))) (goodIn_sub (fun _ h => List.mem_cons_of_mem _ (List.mem_append_left _ (List.mem_append_left _ (List.mem_append_right _ h)))) (by decide +kernel))) (goodIn_sub (fun _ h => List.mem_cons_of_mem _ (List.mem_append_right _ h)) (by decide +kernel))
set_option maxRecDepth 20000 in
theorem gL_does_X9_addSnow : GoodIn wsL_does (wsV RL 20 RX9 yX9_addSnow wsX9_addSnow) := goodIn_app (goodIn_of _ (by decide +kernel)) ggL_does_X9_addSnow
set_option maxRecDepth 20000 in
theorem ggL_does_X9_setWall_c : GoodIn wsL_does [.code yX9_setWall cX9_setWall 3 (some .int)] := goodIn_r [.code yX9_setWall cX9_setWall 3 (some .int)] [134] (by decide +kernel) (by decide +kernel)
set_option maxRecDepth 20000 in
theorem ggL_does_X9_setWall_s1 : GoodIn wsL_does wsX9_setWall_r1 := goodIn_r wsX9_setWall_r1 [54, 13, 17, 23, 135, 136, 9, 137, 138, 139, 140, 59, 60, 61, 62, 63, 64, 65, 66, 11, 12, 67, 68, 69] (by decide +kernel) (by decide +kernel)
set_option maxRecDepth 20000 in
theorem ggL_does_X9_setWall_s2 : GoodIn wsL_does wsX9_setWall_r2 := goodIn_r wsX9_setWall_r2 [70, 71, 72, 73, 74, 75, 76, 77, 78, 79, 80, 81, 82, 83, 84, 85, 86, 87, 88, 89, 90, 91, 92, 93] (by decide +kernel) (by decide +kernel)
set_option maxRecDepth 20000 in
theorem ggL_does_X9_setWall_s3 : GoodIn wsL_does wsX9_setWall_r3 := goodIn_r wsX9_setWall_r3 [94, 95, 96, 97, 98, 99, 100, 101, 102, 103, 104, 105, 33, 106, 35, 107, 108, 109, 110, 44, 111, 112, 113, 114] (by decide +kernel) (by decide +kernel)
set_option maxRecDepth 20000 in
theorem ggL_does_X9_setWall_s4 : GoodIn wsL_does wsX9_setWall_r4 := goodIn_r wsX9_setWall_r4 [115, 116, 117, 118, 119, 120, 121, 122, 123, 124, 125, 126, 47, 48, 49] (by decide +kernel) (by decide +kernel)
set_option maxRecDepth 20000 in
theorem ggL_does_X9_setWall_s5 : GoodIn wsL_does wsX90 := goodIn_r wsX90 [295, 296, 297, 298, 299] (by decide +kernel) (by decide +kernel)
set_option maxRecDepth 20000 in
theorem ggL_does_X9_setWall_s6 : GoodIn wsL_does wsX50 := goodIn_r wsX50 [300, 301, 302, 303, 304, 305, 306, 307, 308, 309] (by decide +kernel) (by decide +kernel)
set_option maxRecDepth 20000 in
theorem ggL_does_X9_setWall_s7 : GoodIn wsL_does wsX40 := goodIn_r wsX40 [310, 311, 312, 313, 314, 315, 316] (by decide +kernel) (by decide +kernel)
set_option maxRecDepth 20000 in
theorem ggL_does_X9_setWall_s8 : GoodIn wsL_does wsX70 := goodIn_r wsX70 [329, 330, 331] (by decide +kernel) (by decide +kernel)
set_option maxRecDepth 20000 in
theorem ggL_does_X9_setWall_s9 : GoodIn wsL_does wsX60 := goodIn_r wsX60 [317, 318, 319, 320] (by decide +kernel) (by decide +kernel)
set_option maxRecDepth 20000 in
theorem ggL_does_X9_setWall_s10 : GoodIn wsL_does wsX10 := goodIn_r wsX10 [321, 322] (by decide +kernel) (by decide +kernel)
set_option maxRecDepth 20000 in
theorem ggL_does_X9_setWall : GoodIn wsL_does wsX9_setWall := goodIn_ca (goodIn_ca (goodIn_ca (goodIn_app (a := [.code yX9_setWall cX9_setWall 3 (some .int)]) ggL_does_X9_setWall_c (goodIn_app (goodIn_app (goodIn_app (goodIn_app (goodIn_app (goodIn_app (goodIn_app ggL_does_X9_setWall_s1 (goodIn_app ggL_does_X9_setWall_s2 (goodIn_app ggL_does_X9_setWall_s3 ggL_does_X9_setWall_s4))) ggL_does_X9_setWall_s5) ggL_does_X9_setWall_s6) ggL_does_X9_setWall_s7) ggL_does_X9_setWall_s8) ggL_does_X9_setWall_s9) ggL_does_X9_setWall_s10)) (goodIn_sub (fun _ h => List.mem_cons_of_mem _ (List.mem_append_left _ (List.mem_append_right _ h))) (by decide +kernel))) (goodIn_sub (fun _ h => List.mem_cons_of_mem _ (List.mem_append_left _ (List.mem_append_left _ (List.mem_append_right _ h)))) (by decide +kernel))) (goodIn_sub (fun _ h => List.mem_cons_of_mem _ (List.mem_append_right _ h)) (by decide +kernel))
set_option maxRecDepth 20000 in
theorem gL_does_X9_setWall : GoodIn wsL_does (wsV RL 23 RX9 yX9_setWall wsX9_setWall) := goodIn_app (goodIn_of _ (by decide +kernel)) ggL_does_X9_setWall
set_option maxRecDepth 20000 in
theorem ggL_does_X9_press_c : GoodIn wsL_does [.code yX9_press cX9_press 3 (some .int)] := goodIn_r [.code yX9_press cX9_press 3 (some .int)] [144] (by decide +kernel) (by decide +kernel)
set_option maxRecDepth 20000 in
theorem ggL_does_X9_press_s1 : GoodIn wsL_does wsX9_press_r1 := goodIn_r wsX9_press_r1 [54, 13, 15, 145, 146, 147, 9, 148, 14, 59, 60, 61, 62, 63, 64, 65, 66, 11, 12, 67, 68, 69, 70, 71] (by decide +kernel) (by decide +kernel)
set_option maxRecDepth 20000 in
theorem ggL_does_X9_press_s2 : GoodIn wsL_does wsX9_press_r2 := goodIn_r wsX9_press_r2 [72, 73, 74, 75, 76, 77, 78, 79, 80, 81, 82, 83, 84, 85, 86, 87, 88, 89, 90, 91, 92, 93, 94, 95] (by decide +kernel) (by decide +kernel)
set_option maxRecDepth 20000 in
theorem ggL_does_X9_press_s3 : GoodIn wsL_does wsX9_press_r3 := goodIn_r wsX9_press_r3 [96, 97, 98, 99, 100, 101, 102, 103, 104, 105, 33, 106, 35, 107, 108, 109, 110, 44, 111, 112, 113, 114, 115, 116] (by decide +kernel) (by decide +kernel)
set_option maxRecDepth 20000 in
theorem ggL_does_X9_press_s4 : GoodIn wsL_does wsX9_press_r4 := goodIn_r wsX9_press_r4 [117, 118, 119, 120, 121, 122, 123, 124, 125, 126, 149, 150, 151, 152] (by decide +kernel) (by decide +kernel)
set_option maxRecDepth 20000 in
theorem ggL_does_X9_press_s5 : GoodIn wsL_does wsX90 := goodIn_r wsX90 [295, 296, 297, 298, 299] (by decide +kernel) (by decide +kernel)
set_option maxRecDepth 20000 in
theorem ggL_does_X9_press_s6 : GoodIn wsL_does wsX50 := goodIn_r wsX50 [300, 301, 302, 303, 304, 305, 306, 307, 308, 309] (by decide +kernel) (by decide +kernel)
set_option maxRecDepth 20000 in
theorem ggL_does_X9_press_s7 : GoodIn wsL_does wsX70 := goodIn_r wsX70 [329, 330, 331] (by decide +kernel) (by decide +kernel)
set_option maxRecDepth 20000 in
theorem ggL_does_X9_press_s8 : GoodIn wsL_does wsX40 := goodIn_r wsX40 [310, 311, 312, 313, 314, 315, 316] (by decide +kernel) (by decide +kernel)
