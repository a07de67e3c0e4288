/-! the law's words, on -/
set_option maxRecDepth 20000 in
theorem gL_does_X9_reason : GoodIn wsL_does (wsV RL 39 RX9 yX9_reason wsX9_reason) := goodIn_app (goodIn_of _ (by decide +kernel)) ggL_does_X9_reason
set_option maxRecDepth 20000 in
theorem ggL_does_X9_carve_c : GoodIn wsL_does [.code yX9_carve cX9_carve 5 (some .int)] := goodIn_r [.code yX9_carve cX9_carve 5 (some .int)] [221] (by decide +kernel) (by decide +kernel)
set_option maxRecDepth 20000 in
theorem ggL_does_X9_carve_s1 : GoodIn wsL_does wsX9_carve_r1 := goodIn_r wsX9_carve_r1 [54, 13, 222, 223, 224, 9, 225, 192, 193, 194, 195, 196, 197, 198, 199, 21, 22, 138, 139, 140, 59, 60, 61, 200] (by decide +kernel) (by decide +kernel)
set_option maxRecDepth 20000 in
theorem ggL_does_X9_carve_s2 : GoodIn wsL_does wsX9_carve_r2 := goodIn_r wsX9_carve_r2 [201, 202, 84, 203, 93, 204, 94, 205, 206, 207, 208, 33, 209, 210, 211, 212, 213, 35, 45, 46, 214, 215, 216, 114] (by decide +kernel) (by decide +kernel)
set_option maxRecDepth 20000 in
theorem ggL_does_X9_carve_s3 : GoodIn wsL_does wsX9_carve_r3 := goodIn_r wsX9_carve_r3 [217, 117, 62, 63, 64, 65, 66, 11, 12, 67, 68, 69, 70, 71, 72, 73, 74, 75, 76, 77, 78, 79, 80, 81] (by decide +kernel) (by decide +kernel)
set_option maxRecDepth 20000 in
theorem ggL_does_X9_carve_s4 : GoodIn wsL_does wsX9_carve_r4 := goodIn_r wsX9_carve_r4 [82, 83, 85, 86, 87, 88, 89, 90, 91, 92, 95, 96, 97, 98, 99, 100, 101, 102, 103, 104, 105, 106, 107, 108] (by decide +kernel) (by decide +kernel)
set_option maxRecDepth 20000 in
theorem ggL_does_X9_carve_s5 : GoodIn wsL_does wsX9_carve_r5 := goodIn_r wsX9_carve_r5 [109, 110, 44, 111, 112, 113, 115, 116, 118, 119, 120, 121, 122, 123, 124, 125, 126, 226, 227, 228, 229, 230, 231, 232] (by decide +kernel) (by decide +kernel)
set_option maxRecDepth 20000 in
theorem ggL_does_X9_carve_s6 : GoodIn wsL_does wsX9_carve_r6 := goodIn_r wsX9_carve_r6 [233, 234, 235, 236, 237, 238, 239, 240, 241] (by decide +kernel) (by decide +kernel)
set_option maxRecDepth 20000 in
theorem ggL_does_X9_carve_s7 : GoodIn wsL_does wsX90 := goodIn_r wsX90 [295, 296, 297, 298, 299] (by decide +kernel) (by decide +kernel)
set_option maxRecDepth 20000 in
theorem ggL_does_X9_carve_s8 : GoodIn wsL_does wsX50 := goodIn_r wsX50 [300, 301, 302, 303, 304, 305, 306, 307, 308, 309] (by decide +kernel) (by decide +kernel)
set_option maxRecDepth 20000 in
theorem ggL_does_X9_carve_s9 : GoodIn wsL_does wsX60 := goodIn_r wsX60 [317, 318, 319, 320] (by decide +kernel) (by decide +kernel)
set_option maxRecDepth 20000 in
theorem ggL_does_X9_carve_s10 : GoodIn wsL_does wsX40 := goodIn_r wsX40 [310, 311, 312, 313, 314, 315, 316] (by decide +kernel) (by decide +kernel)
set_option maxRecDepth 20000 in
theorem ggL_does_X9_carve_s11 : GoodIn wsL_does wsX70 := goodIn_r wsX70 [329, 330, 331] (by decide +kernel) (by decide +kernel)
set_option maxRecDepth 20000 in
theorem ggL_does_X9_carve_s12 : GoodIn wsL_does wsX10 := goodIn_r wsX10 [321, 322] (by decide +kernel) (by decide +kernel)
set_option maxRecDepth 20000 in
theorem ggL_does_X9_carve : GoodIn wsL_does wsX9_carve := goodIn_ca (goodIn_ca (goodIn_ca (goodIn_app (a := [.code yX9_carve cX9_carve 5 (some .int)]) ggL_does_X9_carve_c (goodIn_app (goodIn_app (goodIn_app (goodIn_app (goodIn_app (goodIn_app (goodIn_app ggL_does_X9_carve_s1 (goodIn_app ggL_does_X9_carve_s2 (goodIn_app ggL_does_X9_carve_s3 (goodIn_app ggL_does_X9_carve_s4 (goodIn_app ggL_does_X9_carve_s5 ggL_does_X9_carve_s6))))) ggL_does_X9_carve_s7) ggL_does_X9_carve_s8) ggL_does_X9_carve_s9) ggL_does_X9_carve_s10) ggL_does_X9_carve_s11) ggL_does_X9_carve_s12)) (goodIn_sub (fun _ h => List.mem_cons_of_mem _ (List.mem_append_left _ (List.mem_append_right _ h))) (by decide +kernel))) (goodIn_sub (fun _ h => List.mem_cons_of_mem _ (List.mem_append_left _ (List.mem_append_left _ (List.mem_append_right _ h)))) (by decide +kernel))) (goodIn_sub (fun _ h => List.mem_cons_of_mem _ (List.mem_append_right _ h)) (by decide +kernel))
set_option maxRecDepth 20000 in
theorem gL_does_X9_carve : GoodIn wsL_does (wsV RL 43 RX9 yX9_carve wsX9_carve) := goodIn_app (goodIn_of _ (by decide +kernel)) ggL_does_X9_carve
set_option maxRecDepth 20000 in
theorem ggL_does_X9_recycle_c : GoodIn wsL_does [.code yX9_recycle cX9_recycle 1 (some .int)] := goodIn_r [.code yX9_recycle cX9_recycle 1 (some .int)] [245] (by decide +kernel) (by decide +kernel)
set_option maxRecDepth 20000 in
theorem ggL_does_X9_recycle_s1 : GoodIn wsL_does wsX9_recycle_r1 := goodIn_r wsX9_recycle_r1 [54, 13, 69, 70, 71, 72, 73, 74, 75, 76, 77, 78, 79, 80, 81, 82, 83, 84, 85, 86, 87, 88, 89, 90] (by decide +kernel) (by decide +kernel)
set_option maxRecDepth 20000 in
theorem ggL_does_X9_recycle_s2 : GoodIn wsL_does wsX9_recycle_r2 := goodIn_r wsX9_recycle_r2 [91, 92, 93, 94, 95, 96, 9, 97, 98, 99, 100, 101, 102, 103, 104, 105, 33, 106, 35, 107, 108, 109, 110, 44] (by decide +kernel) (by decide +kernel)
set_option maxRecDepth 20000 in
theorem ggL_does_X9_recycle_s3 : GoodIn wsL_does wsX9_recycle_r3 := goodIn_r wsX9_recycle_r3 [111, 112, 113, 114, 115, 116, 117, 118, 119, 120, 121, 122, 123, 124, 125, 126, 246, 247, 248, 249, 250] (by decide +kernel) (by decide +kernel)
set_option maxRecDepth 20000 in
theorem ggL_does_X9_recycle_s4 : GoodIn wsL_does wsX90 := goodIn_r wsX90 [295, 296, 297, 298, 299] (by decide +kernel) (by decide +kernel)
set_option maxRecDepth 20000 in
theorem ggL_does_X9_recycle_s5 : GoodIn wsL_does wsX70 := goodIn_r wsX70 [329, 330, 331] (by decide +kernel) (by decide +kernel)
set_option maxRecDepth 20000 in
theorem ggL_does_X9_recycle_s6 : GoodIn wsL_does wsX50 := goodIn_r wsX50 [300, 301, 302, 303, 304, 305, 306, 307, 308, 309] (by decide +kernel) (by decide +kernel)
set_option maxRecDepth 20000 in
theorem ggL_does_X9_recycle_s7 : GoodIn wsL_does wsX40 := goodIn_r wsX40 [310, 311, 312, 313, 314, 315, 316] (by decide +kernel) (by decide +kernel)
set_option maxRecDepth 20000 in
theorem ggL_does_X9_recycle_s8 : GoodIn wsL_does wsX60 := goodIn_r wsX60 [317, 318, 319, 320] (by decide +kernel) (by decide +kernel)
set_option maxRecDepth 20000 in
theorem ggL_does_X9_recycle_s9 : GoodIn wsL_does wsX10 := goodIn_r wsX10 [321, 322] (by decide +kernel) (by decide +kernel)
set_option maxRecDepth 20000 in
theorem ggL_does_X9_recycle : GoodIn wsL_does wsX9_recycle := (goodIn_app (a := [.code yX9_recycle cX9_recycle 1 (some .int)]) ggL_does_X9_recycle_c (goodIn_app (goodIn_app (goodIn_app (goodIn_app (goodIn_app (goodIn_app (goodIn_app ggL_does_X9_recycle_s1 (goodIn_app ggL_does_X9_recycle_s2 ggL_does_X9_recycle_s3)) ggL_does_X9_recycle_s4) ggL_does_X9_recycle_s5) ggL_does_X9_recycle_s6) ggL_does_X9_recycle_s7) ggL_does_X9_recycle_s8) ggL_does_X9_recycle_s9))
set_option maxRecDepth 20000 in
theorem gL_does_X9_recycle : GoodIn wsL_does (wsV RL 46 RX9 yX9_recycle wsX9_recycle) := goodIn_app (goodIn_of _ (by decide +kernel)) ggL_does_X9_recycle
set_option maxRecDepth 20000 in
theorem ggL_does_X9_ballot_c : GoodIn wsL_does [.code yX9_ballot cX9_ballot 4 (some .int)] := goodIn_r [.code yX9_ballot cX9_ballot 4 (some .int)] [254] (by decide +kernel) (by decide +kernel)
set_option maxRecDepth 20000 in
theorem ggL_does_X9_ballot_s1 : GoodIn wsL_does wsX9_ballot_r1 := goodIn_r wsX9_ballot_r1 [54, 13, 26, 27, 255, 256, 257, 9, 258, 138, 139, 140, 59, 60, 61, 259, 260, 261, 62, 63, 64, 65, 66, 11] (by decide +kernel) (by decide +kernel)
set_option maxRecDepth 20000 in
theorem ggL_does_X9_ballot_s2 : GoodIn wsL_does wsX9_ballot_r2 := goodIn_r wsX9_ballot_r2 [12, 67, 68, 69, 70, 71, 72, 73, 74, 75, 76, 77, 78, 79, 80, 81, 82, 83, 84, 85, 86, 87, 88, 89] (by decide +kernel) (by decide +kernel)
set_option maxRecDepth 20000 in
theorem ggL_does_X9_ballot_s3 : GoodIn wsL_does wsX9_ballot_r3 := goodIn_r wsX9_ballot_r3 [90, 91, 92, 93, 94, 95, 96, 97, 98, 99, 100, 101, 102, 103, 104, 105, 33, 106, 35, 107, 108, 109, 110, 44] (by decide +kernel) (by decide +kernel)
set_option maxRecDepth 20000 in
theorem ggL_does_X9_ballot_s4 : GoodIn wsL_does wsX9_ballot_r4 := goodIn_r wsX9_ballot_r4 [111, 112, 113, 114, 115, 116, 117, 118, 119, 120, 121, 122, 123, 124, 125, 126, 262, 263, 264, 265] (by decide +kernel) (by decide +kernel)
set_option maxRecDepth 20000 in
theorem ggL_does_X9_ballot_s5 : GoodIn wsL_does wsX90 := goodIn_r wsX90 [295, 296, 297, 298, 299] (by decide +kernel) (by decide +kernel)
set_option maxRecDepth 20000 in
theorem ggL_does_X9_ballot_s6 : GoodIn wsL_does wsX50 := goodIn_r wsX50 [300, 301, 302, 303, 304, 305, 306, 307, 308, 309] (by decide +kernel) (by decide +kernel)
set_option maxRecDepth 20000 in
theorem ggL_does_X9_ballot_s7 : GoodIn wsL_does wsX10 := goodIn_r wsX10 [321, 322] (by decide +kernel) (by decide +kernel)
set_option maxRecDepth 20000 in
theorem ggL_does_X9_ballot_s8 : GoodIn wsL_does wsX70 := goodIn_r wsX70 [329, 330, 331] (by decide +kernel) (by decide +kernel)
