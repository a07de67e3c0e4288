/-! the law's words, on -/
set_option maxRecDepth 20000 in
theorem ggL_does_X9_press_s9 : GoodIn wsL_does wsX60 := goodIn_r wsX60 [317, 318, 319, 320] (by decide +kernel) (by decide +kernel)
set_option maxRecDepth 20000 in
theorem ggL_does_X9_press_s10 : GoodIn wsL_does wsX10 := goodIn_r wsX10 [321, 322] (by decide +kernel) (by decide +kernel)
set_option maxRecDepth 20000 in
theorem ggL_does_X9_press : GoodIn wsL_does wsX9_press := goodIn_ca (goodIn_ca (goodIn_ca (goodIn_app (a := [.code yX9_press cX9_press 3 (some .int)]) ggL_does_X9_press_c (goodIn_app (goodIn_app (goodIn_app (goodIn_app (goodIn_app (goodIn_app (goodIn_app ggL_does_X9_press_s1 (goodIn_app ggL_does_X9_press_s2 (goodIn_app ggL_does_X9_press_s3 ggL_does_X9_press_s4))) ggL_does_X9_press_s5) ggL_does_X9_press_s6) ggL_does_X9_press_s7) ggL_does_X9_press_s8) ggL_does_X9_press_s9) ggL_does_X9_press_s10)) (goodIn_sub (fun _ h => List.mem_cons_of_mem _ (List.mem_append_left _ (List.mem_append_right _ h))) (by decide +kernel))) (goodIn_sub (fun _ h => List.mem_cons_of_mem _ (List.mem_append_left _ (List.mem_append_left _ (List.mem_append_right _ h)))) (by decide +kernel))) (goodIn_sub (fun _ h => List.mem_cons_of_mem _ (List.mem_append_right _ h)) (by decide +kernel))
set_option maxRecDepth 20000 in
theorem gL_does_X9_press : GoodIn wsL_does (wsV RL 27 RX9 yX9_press wsX9_press) := goodIn_app (goodIn_of _ (by decide +kernel)) ggL_does_X9_press
set_option maxRecDepth 20000 in
theorem ggL_does_X9_site : GoodIn wsL_does wsX9_site := goodIn_ca (goodIn_ca (goodIn_ca (goodIn_r _ [156, 11, 12, 13, 17, 157, 23, 158, 19, 135, 136, 9, 137, 138, 139, 140, 59, 60, 61, 62, 63, 64, 65, 66, 67, 68, 159, 41, 42, 33, 43, 35, 44, 45, 46, 295, 296, 297, 298, 299, 300, 301, 302, 303, 304, 305, 306, 307, 308, 309, 310, 311, 312, 313, 314, 315, 316] (by decide +kernel) (by decide +kernel)) (goodIn_sub (fun _ h => List.mem_cons_of_mem _ (List.mem_append_left _ (List.mem_append_left _ (List.mem_append_right _ h)))) (by decide +kernel))) (goodIn_sub (fun _ h => List.mem_cons_of_mem _ (List.mem_append_left _ (List.mem_append_right _ h))) (by decide +kernel))) (goodIn_sub (fun _ h => List.mem_cons_of_mem _ (List.mem_append_right _ h)) (by decide +kernel))
set_option maxRecDepth 20000 in
theorem gL_does_X9_site : GoodIn wsL_does (wsV RL 30 RX9 yX9_site wsX9_site) := goodIn_app (goodIn_of _ (by decide +kernel)) ggL_does_X9_site
set_option maxRecDepth 20000 in
theorem ggL_does_X9_stack_c : GoodIn wsL_does [.code yX9_stack cX9_stack 3 (some .int)] := goodIn_r [.code yX9_stack cX9_stack 3 (some .int)] [163] (by decide +kernel) (by decide +kernel)
set_option maxRecDepth 20000 in
theorem ggL_does_X9_stack_s1 : GoodIn wsL_does wsX9_stack_r1 := goodIn_r wsX9_stack_r1 [54, 13, 17, 157, 164, 165, 166, 9, 167, 15, 138, 139, 140, 59, 60, 61, 62, 63, 64, 65, 66, 11, 12, 67] (by decide +kernel) (by decide +kernel)
set_option maxRecDepth 20000 in
theorem ggL_does_X9_stack_s2 : GoodIn wsL_does wsX9_stack_r2 := goodIn_r wsX9_stack_r2 [68, 69, 70, 71, 72, 73, 74, 75, 76, 77, 78, 79, 80, 81, 82, 83, 84, 85, 86, 87, 88, 89, 90, 91] (by decide +kernel) (by decide +kernel)
set_option maxRecDepth 20000 in
theorem ggL_does_X9_stack_s3 : GoodIn wsL_does wsX9_stack_r3 := goodIn_r wsX9_stack_r3 [92, 93, 94, 95, 96, 97, 98, 99, 100, 101, 102, 103, 104, 105, 33, 106, 35, 107, 108, 109, 110, 44, 111, 112] (by decide +kernel) (by decide +kernel)
set_option maxRecDepth 20000 in
theorem ggL_does_X9_stack_s4 : GoodIn wsL_does wsX9_stack_r4 := goodIn_r wsX9_stack_r4 [113, 114, 115, 116, 117, 118, 119, 120, 121, 122, 123, 124, 125, 126, 168, 169, 170, 171, 172, 173, 174, 175, 45, 46] (by decide +kernel) (by decide +kernel)
set_option maxRecDepth 20000 in
theorem ggL_does_X9_stack_s5 : GoodIn wsL_does wsX90 := goodIn_r wsX90 [295, 296, 297, 298, 299] (by decide +kernel) (by decide +kernel)
set_option maxRecDepth 20000 in
theorem ggL_does_X9_stack_s6 : GoodIn wsL_does wsX50 := goodIn_r wsX50 [300, 301, 302, 303, 304, 305, 306, 307, 308, 309] (by decide +kernel) (by decide +kernel)
set_option maxRecDepth 20000 in
theorem ggL_does_X9_stack_s7 : GoodIn wsL_does wsX40 := goodIn_r wsX40 [310, 311, 312, 313, 314, 315, 316] (by decide +kernel) (by decide +kernel)
set_option maxRecDepth 20000 in
theorem ggL_does_X9_stack_s8 : GoodIn wsL_does wsX70 := goodIn_r wsX70 [329, 330, 331] (by decide +kernel) (by decide +kernel)
set_option maxRecDepth 20000 in
theorem ggL_does_X9_stack_s9 : GoodIn wsL_does wsX60 := goodIn_r wsX60 [317, 318, 319, 320] (by decide +kernel) (by decide +kernel)
set_option maxRecDepth 20000 in
theorem ggL_does_X9_stack_s10 : GoodIn wsL_does wsX10 := goodIn_r wsX10 [321, 322] (by decide +kernel) (by decide +kernel)
set_option maxRecDepth 20000 in
theorem ggL_does_X9_stack : GoodIn wsL_does wsX9_stack := goodIn_ca (goodIn_ca (goodIn_ca (goodIn_app (a := [.code yX9_stack cX9_stack 3 (some .int)]) ggL_does_X9_stack_c (goodIn_app (goodIn_app (goodIn_app (goodIn_app (goodIn_app (goodIn_app (goodIn_app ggL_does_X9_stack_s1 (goodIn_app ggL_does_X9_stack_s2 (goodIn_app ggL_does_X9_stack_s3 ggL_does_X9_stack_s4))) ggL_does_X9_stack_s5) ggL_does_X9_stack_s6) ggL_does_X9_stack_s7) ggL_does_X9_stack_s8) ggL_does_X9_stack_s9) ggL_does_X9_stack_s10)) (goodIn_sub (fun _ h => List.mem_cons_of_mem _ (List.mem_append_left _ (List.mem_append_right _ h))) (by decide +kernel))) (goodIn_sub (fun _ h => List.mem_cons_of_mem _ (List.mem_append_left _ (List.mem_append_left _ (List.mem_append_right _ h)))) (by decide +kernel))) (goodIn_sub (fun _ h => List.mem_cons_of_mem _ (List.mem_append_right _ h)) (by decide +kernel))
set_option maxRecDepth 20000 in
theorem gL_does_X9_stack : GoodIn wsL_does (wsV RL 33 RX9 yX9_stack wsX9_stack) := goodIn_app (goodIn_of _ (by decide +kernel)) ggL_does_X9_stack
set_option maxRecDepth 20000 in
theorem ggL_does_X9_addTool_c : GoodIn wsL_does [.code yX9_addTool cX9_addTool 2 (some .int)] := goodIn_r [.code yX9_addTool cX9_addTool 2 (some .int)] [179] (by decide +kernel) (by decide +kernel)
set_option maxRecDepth 20000 in
theorem ggL_does_X9_addTool_s1 : GoodIn wsL_does wsX9_addTool_r1 := goodIn_r wsX9_addTool_r1 [54, 13, 21, 22, 180, 181, 182, 9, 183, 59, 60, 61, 62, 63, 64, 65, 66, 11, 12, 67, 68, 69, 70, 71] (by decide +kernel) (by decide +kernel)
set_option maxRecDepth 20000 in
theorem ggL_does_X9_addTool_s2 : GoodIn wsL_does wsX9_addTool_r2 := goodIn_r wsX9_addTool_r2 [72, 73, 74, 75, 76, 77, 78, 79, 80, 81, 82, 83, 84, 85, 86, 87, 88, 89, 90, 91, 92, 93, 94, 95] (by decide +kernel) (by decide +kernel)
set_option maxRecDepth 20000 in
theorem ggL_does_X9_addTool_s3 : GoodIn wsL_does wsX9_addTool_r3 := goodIn_r wsX9_addTool_r3 [96, 97, 98, 99, 100, 101, 102, 103, 104, 105, 33, 106, 35, 107, 108, 109, 110, 44, 111, 112, 113, 114, 115, 116] (by decide +kernel) (by decide +kernel)
set_option maxRecDepth 20000 in
theorem ggL_does_X9_addTool_s4 : GoodIn wsL_does wsX9_addTool_r4 := goodIn_r wsX9_addTool_r4 [117, 118, 119, 120, 121, 122, 123, 124, 125, 126, 184, 185, 186, 187] (by decide +kernel) (by decide +kernel)
set_option maxRecDepth 20000 in
theorem ggL_does_X9_addTool_s5 : GoodIn wsL_does wsX90 := goodIn_r wsX90 [295, 296, 297, 298, 299] (by decide +kernel) (by decide +kernel)
set_option maxRecDepth 20000 in
theorem ggL_does_X9_addTool_s6 : GoodIn wsL_does wsX50 := goodIn_r wsX50 [300, 301, 302, 303, 304, 305, 306, 307, 308, 309] (by decide +kernel) (by decide +kernel)
set_option maxRecDepth 20000 in
theorem ggL_does_X9_addTool_s7 : GoodIn wsL_does wsX60 := goodIn_r wsX60 [317, 318, 319, 320] (by decide +kernel) (by decide +kernel)
set_option maxRecDepth 20000 in
theorem ggL_does_X9_addTool_s8 : GoodIn wsL_does wsX70 := goodIn_r wsX70 [329, 330, 331] (by decide +kernel) (by decide +kernel)
set_option maxRecDepth 20000 in
theorem ggL_does_X9_addTool_s9 : GoodIn wsL_does wsX40 := goodIn_r wsX40 [310, 311, 312, 313, 314, 315, 316] (by decide +kernel) (by decide +kernel)
set_option maxRecDepth 20000 in
theorem ggL_does_X9_addTool_s10 : GoodIn wsL_does wsX10 := goodIn_r wsX10 [321, 322] (by decide +kernel) (by decide +kernel)
set_option maxRecDepth 20000 in
theorem ggL_does_X9_addTool : GoodIn wsL_does wsX9_addTool := goodIn_ca (goodIn_ca (goodIn_ca (goodIn_app (a := [.code yX9_addTool cX9_addTool 2 (some .int)]) ggL_does_X9_addTool_c (goodIn_app (goodIn_app (goodIn_app (goodIn_app (goodIn_app (goodIn_app (goodIn_app ggL_does_X9_addTool_s1 (goodIn_app ggL_does_X9_addTool_s2 (goodIn_app ggL_does_X9_addTool_s3 ggL_does_X9_addTool_s4))) ggL_does_X9_addTool_s5) ggL_does_X9_addTool_s6) ggL_does_X9_addTool_s7) ggL_does_X9_addTool_s8) ggL_does_X9_addTool_s9) ggL_does_X9_addTool_s10)) (goodIn_sub (fun _ h => List.mem_cons_of_mem _ (List.mem_append_left _ (List.mem_append_right _ h))) (by decide +kernel))) (goodIn_sub (fun _ h => List.mem_cons_of_mem _ (List.mem_append_left _ (List.mem_append_left _ (List.mem_append_right _ h)))) (by decide +kernel))) (goodIn_sub (fun _ h => List.mem_cons_of_mem _ (List.mem_append_right _ h)) (by decide +kernel))
set_option maxRecDepth 20000 in
theorem gL_does_X9_addTool : GoodIn wsL_does (wsV RL 36 RX9 yX9_addTool wsX9_addTool) := goodIn_app (goodIn_of _ (by decide +kernel)) ggL_does_X9_addTool
set_option maxRecDepth 20000 in
theorem ggL_does_X9_reason : GoodIn wsL_does wsX9_reason := goodIn_ca (goodIn_ca (goodIn_ca (goodIn_r _ [191, 13, 192, 193, 194, 9, 195, 196, 197, 198, 199, 21, 22, 138, 139, 140, 59, 60, 61, 62, 63, 64, 65, 66, 11, 12, 67, 68, 200, 201, 202, 84, 203, 93, 204, 94, 205, 206, 207, 208, 33, 209, 210, 211, 212, 213, 35, 45, 46, 214, 215, 216, 114, 217, 117, 295, 296, 297, 298, 299, 300, 301, 302, 303, 304, 305, 306, 307, 308, 309, 317, 318, 319, 320, 310, 311, 312, 313, 314, 315, 316] (by decide +kernel) (by decide +kernel)) (goodIn_sub (fun _ h => List.mem_cons_of_mem _ (List.mem_append_left _ (List.mem_append_right _ h))) (by decide +kernel))) (goodIn_sub (fun _ h => List.mem_cons_of_mem _ (List.mem_append_left _ (List.mem_append_left _ (List.mem_append_right _ h)))) (by decide +kernel))) (goodIn_sub (fun _ h => List.mem_cons_of_mem _ (List.mem_append_right _ h)) (by decide +kernel))
