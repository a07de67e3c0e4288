/-! the law's words, on -/
set_option maxRecDepth 20000 in
theorem ggL_does_X9_ballot_s9 : GoodIn wsL_does wsX40 := goodIn_r wsX40 [310, 311, 312, 313, 314, 315, 316] (by decide +kernel) (by decide +kernel)
set_option maxRecDepth 20000 in
theorem ggL_does_X9_ballot_s10 : GoodIn wsL_does wsX60 := goodIn_r wsX60 [317, 318, 319, 320] (by decide +kernel) (by decide +kernel)
set_option maxRecDepth 20000 in
theorem ggL_does_X9_ballot : GoodIn wsL_does wsX9_ballot := goodIn_ca (goodIn_ca (goodIn_ca (goodIn_app (a := [.code yX9_ballot cX9_ballot 4 (some .int)]) ggL_does_X9_ballot_c (goodIn_app (goodIn_app (goodIn_app (goodIn_app (goodIn_app (goodIn_app (goodIn_app ggL_does_X9_ballot_s1 (goodIn_app ggL_does_X9_ballot_s2 (goodIn_app ggL_does_X9_ballot_s3 ggL_does_X9_ballot_s4))) ggL_does_X9_ballot_s5) ggL_does_X9_ballot_s6) ggL_does_X9_ballot_s7) ggL_does_X9_ballot_s8) ggL_does_X9_ballot_s9) ggL_does_X9_ballot_s10)) (goodIn_sub (fun _ h => List.mem_cons_of_mem _ (List.mem_append_left _ (List.mem_append_right _ h))) (by decide +kernel))) (goodIn_sub (fun _ h => List.mem_cons_of_mem _ (List.mem_append_left _ (List.mem_append_left _ (List.mem_append_right _ h)))) (by decide +kernel))) (goodIn_sub (fun _ h => List.mem_cons_of_mem _ (List.mem_append_right _ h)) (by decide +kernel))
set_option maxRecDepth 20000 in
theorem gL_does_X9_ballot : GoodIn wsL_does (wsV RL 50 RX9 yX9_ballot wsX9_ballot) := goodIn_app (goodIn_of _ (by decide +kernel)) ggL_does_X9_ballot
set_option maxRecDepth 20000 in
theorem ggL_does_X9_hour_c : GoodIn wsL_does [.code yX9_hour cX9_hour 2 (some .int)] := goodIn_r [.code yX9_hour cX9_hour 2 (some .int)] [269] (by decide +kernel) (by decide +kernel)
set_option maxRecDepth 20000 in
theorem ggL_does_X9_hour_s1 : GoodIn wsL_does wsX9_hour_r1 := goodIn_r wsX9_hour_r1 [54, 13, 69, 70, 71, 72, 73, 74, 75, 76, 77, 78, 79, 80, 81, 82, 83, 84, 85, 86, 87, 88, 89, 90] (by decide +kernel) (by decide +kernel)
set_option maxRecDepth 20000 in
theorem ggL_does_X9_hour_s2 : GoodIn wsL_does wsX9_hour_r2 := goodIn_r wsX9_hour_r2 [91, 92, 93, 94, 95, 96, 9, 97, 98, 99, 100, 101, 102, 103, 104, 105, 33, 106, 35, 107, 108, 109, 110, 44] (by decide +kernel) (by decide +kernel)
set_option maxRecDepth 20000 in
theorem ggL_does_X9_hour_s3 : GoodIn wsL_does wsX9_hour_r3 := goodIn_r wsX9_hour_r3 [111, 112, 113, 114, 115, 116, 117, 118, 119, 120, 121, 122, 123, 124, 125, 126, 270, 271, 272, 273, 274, 275, 276, 277] (by decide +kernel) (by decide +kernel)
set_option maxRecDepth 20000 in
theorem ggL_does_X9_hour_s4 : GoodIn wsL_does wsX9_hour_r4 := goodIn_r wsX9_hour_r4 [278, 279, 45, 46, 280, 281, 282, 283, 284, 285, 286, 210, 211, 212, 213, 287, 288, 289, 290, 238, 239, 240, 241, 291] (by decide +kernel) (by decide +kernel)
set_option maxRecDepth 20000 in
theorem ggL_does_X9_hour_s5 : GoodIn wsL_does wsX9_hour_r5 := goodIn_r wsX9_hour_r5 [292, 293, 294] (by decide +kernel) (by decide +kernel)
set_option maxRecDepth 20000 in
theorem ggL_does_X9_hour_s6 : GoodIn wsL_does wsX90 := goodIn_r wsX90 [295, 296, 297, 298, 299] (by decide +kernel) (by decide +kernel)
set_option maxRecDepth 20000 in
theorem ggL_does_X9_hour_s7 : GoodIn wsL_does wsX70 := goodIn_r wsX70 [329, 330, 331] (by decide +kernel) (by decide +kernel)
set_option maxRecDepth 20000 in
theorem ggL_does_X9_hour_s8 : GoodIn wsL_does wsX50 := goodIn_r wsX50 [300, 301, 302, 303, 304, 305, 306, 307, 308, 309] (by decide +kernel) (by decide +kernel)
set_option maxRecDepth 20000 in
theorem ggL_does_X9_hour_s9 : GoodIn wsL_does wsX40 := goodIn_r wsX40 [310, 311, 312, 313, 314, 315, 316] (by decide +kernel) (by decide +kernel)
set_option maxRecDepth 20000 in
theorem ggL_does_X9_hour_s10 : GoodIn wsL_does wsX60 := goodIn_r wsX60 [317, 318, 319, 320] (by decide +kernel) (by decide +kernel)
set_option maxRecDepth 20000 in
theorem ggL_does_X9_hour_s11 : GoodIn wsL_does wsX10 := goodIn_r wsX10 [321, 322] (by decide +kernel) (by decide +kernel)
set_option maxRecDepth 20000 in
theorem ggL_does_X9_hour : GoodIn wsL_does wsX9_hour := (goodIn_app (a := [.code yX9_hour cX9_hour 2 (some .int)]) ggL_does_X9_hour_c (goodIn_app (goodIn_app (goodIn_app (goodIn_app (goodIn_app (goodIn_app (goodIn_app ggL_does_X9_hour_s1 (goodIn_app ggL_does_X9_hour_s2 (goodIn_app ggL_does_X9_hour_s3 (goodIn_app ggL_does_X9_hour_s4 ggL_does_X9_hour_s5)))) ggL_does_X9_hour_s6) ggL_does_X9_hour_s7) ggL_does_X9_hour_s8) ggL_does_X9_hour_s9) ggL_does_X9_hour_s10) ggL_does_X9_hour_s11))
set_option maxRecDepth 20000 in
theorem gL_does_X9_hour : GoodIn wsL_does (wsV RL 54 RX9 yX9_hour wsX9_hour) := goodIn_app (goodIn_of _ (by decide +kernel)) ggL_does_X9_hour
set_option maxRecDepth 20000 in
theorem ggL_melting_X9_site : GoodIn wsL_melting wsX9_site := goodIn_ca (goodIn_ca (goodIn_ca (goodIn_r _ [5, 6, 7, 8, 9, 10, 11, 12, 13, 14, 15, 4, 16, 17, 18, 19, 20, 21, 22, 23, 24, 25, 26, 27, 28, 29, 30, 31, 32, 33, 34, 35, 36, 37, 38, 64, 65, 66, 67, 68, 69, 70, 71, 72, 73, 74, 75, 76, 77, 78, 79, 80, 81, 82, 83, 84, 85] (by decide +kernel) (by decide +kernel)) (goodIn_sub (fun _ h => List.mem_cons_of_mem _ (List.mem_append_left _ (List.mem_append_left _ (List.mem_append_right _ h)))) (by decide +kernel))) (goodIn_sub (fun _ h => List.mem_cons_of_mem _ (List.mem_append_left _ (List.mem_append_right _ h))) (by decide +kernel))) (goodIn_sub (fun _ h => List.mem_cons_of_mem _ (List.mem_append_right _ h)) (by decide +kernel))
set_option maxRecDepth 20000 in
theorem gL_melting_X9_site : GoodIn wsL_melting (wsV RL 30 RX9 yX9_site wsX9_site) := goodIn_app (goodIn_of _ (by decide +kernel)) ggL_melting_X9_site
set_option maxRecDepth 20000 in
theorem ggL_melting_X9_block : GoodIn wsL_melting wsX9_block := goodIn_ca (goodIn_ca (goodIn_ca (goodIn_r _ [42, 6, 7, 8, 9, 43, 44, 45, 14, 15, 4, 16, 17, 18, 19, 20, 21, 22, 23, 24, 25, 26, 27, 28, 29, 46, 47, 48, 33, 49, 50, 51, 52, 53, 35, 54, 37, 38, 55, 56, 57, 58, 59, 64, 65, 66, 67, 68, 69, 70, 71, 72, 73, 74, 75, 76, 77, 78, 79, 80, 81, 82, 83, 84, 85] (by decide +kernel) (by decide +kernel)) (goodIn_sub (fun _ h => List.mem_cons_of_mem _ (List.mem_append_left _ (List.mem_append_left _ (List.mem_append_right _ h)))) (by decide +kernel))) (goodIn_sub (fun _ h => List.mem_cons_of_mem _ (List.mem_append_left _ (List.mem_append_right _ h))) (by decide +kernel))) (goodIn_sub (fun _ h => List.mem_cons_of_mem _ (List.mem_append_right _ h)) (by decide +kernel))
set_option maxRecDepth 20000 in
theorem gL_melting_X9_block : GoodIn wsL_melting (wsV RL 58 RX9 yX9_block wsX9_block) := goodIn_app (goodIn_of _ (by decide +kernel)) ggL_melting_X9_block
set_option maxRecDepth 20000 in
theorem ggL_melting_L_rate : GoodIn wsL_melting wsL_rate := goodIn_r _ [63] (by decide +kernel) (by decide +kernel)
set_option maxRecDepth 20000 in
theorem gL_melting_L_rate : GoodIn wsL_melting (va_wsS RL 61 yL_rate wsL_rate) := goodIn_app (goodIn_of _ (by decide +kernel)) ggL_melting_L_rate
set_option maxRecDepth 20000 in
theorem ggL_areSitesSo_X9_site : GoodIn wsL_areSitesSo wsX9_site := goodIn_ca (goodIn_ca (goodIn_ca (goodIn_r _ [5, 6, 7, 8, 9, 10, 11, 12, 13, 14, 15, 4, 16, 17, 18, 19, 20, 21, 22, 23, 24, 25, 26, 27, 28, 29, 30, 31, 32, 33, 34, 35, 36, 37, 38, 143, 144, 145, 146, 147, 148, 149, 150, 151, 152, 153, 154, 155, 156, 157, 158, 159, 160, 161, 162, 163, 164] (by decide +kernel) (by decide +kernel)) (goodIn_sub (fun _ h => List.mem_cons_of_mem _ (List.mem_append_left _ (List.mem_append_left _ (List.mem_append_right _ h)))) (by decide +kernel))) (goodIn_sub (fun _ h => List.mem_cons_of_mem _ (List.mem_append_left _ (List.mem_append_right _ h))) (by decide +kernel))) (goodIn_sub (fun _ h => List.mem_cons_of_mem _ (List.mem_append_right _ h)) (by decide +kernel))
set_option maxRecDepth 20000 in
theorem gL_areSitesSo_X9_site : GoodIn wsL_areSitesSo (wsV RL 30 RX9 yX9_site wsX9_site) := goodIn_app (goodIn_of _ (by decide +kernel)) ggL_areSitesSo_X9_site
set_option maxRecDepth 20000 in
theorem ggL_areSitesSo_X9_volumeIn_c : GoodIn wsL_areSitesSo [.code yX9_volumeIn cX9_volumeIn 3 (some .int)] := goodIn_r [.code yX9_volumeIn cX9_volumeIn 3 (some .int)] [42] (by decide +kernel) (by decide +kernel)
set_option maxRecDepth 20000 in
theorem ggL_areSitesSo_X9_volumeIn_s1 : GoodIn wsL_areSitesSo wsX9_volumeIn_r1 := goodIn_r wsX9_volumeIn_r1 [6, 7, 43, 8, 9, 14, 15, 4, 16, 17, 18, 19, 20, 21, 22, 23, 24, 25, 26, 27, 28, 29, 44, 45] (by decide +kernel) (by decide +kernel)
set_option maxRecDepth 20000 in
theorem ggL_areSitesSo_X9_volumeIn_s2 : GoodIn wsL_areSitesSo wsX9_volumeIn_r2 := goodIn_r wsX9_volumeIn_r2 [46, 33, 47, 35, 48, 49, 50, 51, 36, 52, 53, 54, 55, 56, 57, 58, 59, 60, 61, 62, 63, 64, 65, 66] (by decide +kernel) (by decide +kernel)
set_option maxRecDepth 20000 in
theorem ggL_areSitesSo_X9_volumeIn_s3 : GoodIn wsL_areSitesSo wsX9_volumeIn_r3 := goodIn_r wsX9_volumeIn_r3 [67, 68, 69, 70, 71, 72, 37, 38, 73, 74, 75, 76, 77, 78, 79, 80, 81, 82, 83, 84, 85, 86, 87, 88] (by decide +kernel) (by decide +kernel)
set_option maxRecDepth 20000 in
theorem ggL_areSitesSo_X9_volumeIn_s4 : GoodIn wsL_areSitesSo wsX9_volumeIn_r4 := goodIn_r wsX9_volumeIn_r4 [89, 90, 91, 30, 31, 32, 34] (by decide +kernel) (by decide +kernel)
set_option maxRecDepth 20000 in
theorem ggL_areSitesSo_X9_volumeIn_s5 : GoodIn wsL_areSitesSo wsX90 := goodIn_r wsX90 [143, 144, 145, 146, 147] (by decide +kernel) (by decide +kernel)
set_option maxRecDepth 20000 in
theorem ggL_areSitesSo_X9_volumeIn_s6 : GoodIn wsL_areSitesSo wsX50 := goodIn_r wsX50 [148, 149, 150, 151, 152, 153, 154, 155, 156, 157] (by decide +kernel) (by decide +kernel)
set_option maxRecDepth 20000 in
theorem ggL_areSitesSo_X9_volumeIn_s7 : GoodIn wsL_areSitesSo wsX40 := goodIn_r wsX40 [158, 159, 160, 161, 162, 163, 164] (by decide +kernel) (by decide +kernel)
set_option maxRecDepth 20000 in
theorem ggL_areSitesSo_X9_volumeIn : GoodIn wsL_areSitesSo wsX9_volumeIn := goodIn_ca (goodIn_ca (goodIn_ca (goodIn_app (a := [.code yX9_volumeIn cX9_volumeIn 3 (some .int)]) ggL_areSitesSo_X9_volumeIn_c (goodIn_app (goodIn_app (goodIn_app (goodIn_app ggL_areSitesSo_X9_volumeIn_s1 (goodIn_app ggL_areSitesSo_X9_volumeIn_s2 (goodIn_app ggL_areSitesSo_X9_volumeIn_s3 ggL_areSitesSo_X9_volumeIn_s4))) ggL_areSitesSo_X9_volumeIn_s5) ggL_areSitesSo_X9_volumeIn_s6) ggL_areSitesSo_X9_volumeIn_s7)) (goodIn_sub (fun _ h => List.mem_cons_of_mem _ (List.mem_append_left _ (List.mem_append_left _ (List.mem_append_right _ h)))) (by decide +kernel))) (goodIn_sub (fun _ h => List.mem_cons_of_mem _ (List.mem_append_left _ (List.mem_append_right _ h))) (by decide +kernel))) (goodIn_sub (fun _ h => List.mem_cons_of_mem _ (List.mem_append_right _ h)) (by decide +kernel))
set_option maxRecDepth 20000 in
theorem gL_areSitesSo_X9_volumeIn : GoodIn wsL_areSitesSo (wsV RL 64 RX9 yX9_volumeIn wsX9_volumeIn) := goodIn_app (goodIn_of _ (by decide +kernel)) ggL_areSitesSo_X9_volumeIn
set_option maxRecDepth 20000 in
theorem ggL_areSitesSo_L_melting : GoodIn wsL_areSitesSo wsL_melting := goodIn_ca (goodIn_ca (goodIn_ca (goodIn_r _ [95, 1, 2, 3, 4, 5, 6, 7, 8, 9, 10, 11, 12, 13, 14, 15, 16, 17, 18, 19, 20, 21, 22, 23, 24, 25, 26, 27, 28, 29, 30, 31, 32, 33, 34, 35, 36, 37, 38, 96, 97, 98, 99, 100, 101, 66, 102, 103, 104, 105, 80, 81, 82, 83, 106, 107, 77, 78, 79, 48, 108, 109, 94, 110, 143, 144, 145, 146, 147, 148, 149, 150, 151, 152, 153, 154, 155, 156, 157, 158, 159, 160, 161, 162, 163, 164] (by decide +kernel) (by decide +kernel)) (goodIn_sub (fun _ h => List.mem_cons_of_mem _ (List.mem_append_left _ (List.mem_append_left _ (List.mem_append_right _ h)))) (by decide +kernel))) (goodIn_sub (fun _ h => List.mem_cons_of_mem _ (List.mem_append_left _ (List.mem_append_right _ h))) (by decide +kernel))) (goodIn_sub (fun _ h => List.mem_cons_of_mem _ (List.mem_append_right _ h)) (by decide +kernel))
set_option maxRecDepth 20000 in
theorem gL_areSitesSo_L_melting : GoodIn wsL_areSitesSo (va_wsS RL 67 yL_melting wsL_melting) := goodIn_app (goodIn_of _ (by decide +kernel)) ggL_areSitesSo_L_melting
set_option maxRecDepth 20000 in
theorem ggL_areSitesSo_X9_goneIn_c : GoodIn wsL_areSitesSo [.code yX9_goneIn cX9_goneIn 3 (some .int)] := goodIn_r [.code yX9_goneIn cX9_goneIn 3 (some .int)] [114] (by decide +kernel) (by decide +kernel)
set_option maxRecDepth 20000 in
theorem ggL_areSitesSo_X9_goneIn_s1 : GoodIn wsL_areSitesSo wsX9_goneIn_r1 := goodIn_r wsX9_goneIn_r1 [8, 9, 43, 66, 14, 15, 4, 16, 17, 18, 19, 20, 21, 22, 23, 24, 25, 26, 27, 6, 7, 28, 29, 102] (by decide +kernel) (by decide +kernel)
set_option maxRecDepth 20000 in
theorem ggL_areSitesSo_X9_goneIn_s2 : GoodIn wsL_areSitesSo wsX9_goneIn_r2 := goodIn_r wsX9_goneIn_r2 [103, 104, 33, 105, 80, 81, 82, 83, 35, 44, 45, 46, 47, 48, 49, 50, 51, 36, 52, 53, 54, 55, 56, 57] (by decide +kernel) (by decide +kernel)
set_option maxRecDepth 20000 in
theorem ggL_areSitesSo_X9_goneIn_s3 : GoodIn wsL_areSitesSo wsX9_goneIn_r3 := goodIn_r wsX9_goneIn_r3 [58, 59, 60, 61, 67, 68, 69, 70, 71, 72, 37, 38, 73, 74, 75, 76, 77, 78, 79, 84, 85, 86, 87, 88] (by decide +kernel) (by decide +kernel)
set_option maxRecDepth 20000 in
theorem ggL_areSitesSo_X9_goneIn_s4 : GoodIn wsL_areSitesSo wsX9_goneIn_r4 := goodIn_r wsX9_goneIn_r4 [89, 90, 91] (by decide +kernel) (by decide +kernel)
set_option maxRecDepth 20000 in
theorem ggL_areSitesSo_X9_goneIn_s5 : GoodIn wsL_areSitesSo wsX90 := goodIn_r wsX90 [143, 144, 145, 146, 147] (by decide +kernel) (by decide +kernel)
set_option maxRecDepth 20000 in
theorem ggL_areSitesSo_X9_goneIn_s6 : GoodIn wsL_areSitesSo wsX50 := goodIn_r wsX50 [148, 149, 150, 151, 152, 153, 154, 155, 156, 157] (by decide +kernel) (by decide +kernel)
set_option maxRecDepth 20000 in
theorem ggL_areSitesSo_X9_goneIn_s7 : GoodIn wsL_areSitesSo wsX40 := goodIn_r wsX40 [158, 159, 160, 161, 162, 163, 164] (by decide +kernel) (by decide +kernel)
set_option maxRecDepth 20000 in
theorem ggL_areSitesSo_X9_goneIn : GoodIn wsL_areSitesSo wsX9_goneIn := goodIn_ca (goodIn_ca (goodIn_ca (goodIn_app (a := [.code yX9_goneIn cX9_goneIn 3 (some .int)]) ggL_areSitesSo_X9_goneIn_c (goodIn_app (goodIn_app (goodIn_app (goodIn_app ggL_areSitesSo_X9_goneIn_s1 (goodIn_app ggL_areSitesSo_X9_goneIn_s2 (goodIn_app ggL_areSitesSo_X9_goneIn_s3 ggL_areSitesSo_X9_goneIn_s4))) ggL_areSitesSo_X9_goneIn_s5) ggL_areSitesSo_X9_goneIn_s6) ggL_areSitesSo_X9_goneIn_s7)) (goodIn_sub (fun _ h => List.mem_cons_of_mem _ (List.mem_append_left _ (List.mem_append_right _ h))) (by decide +kernel))) (goodIn_sub (fun _ h => List.mem_cons_of_mem _ (List.mem_append_left _ (List.mem_append_left _ (List.mem_append_right _ h)))) (by decide +kernel))) (goodIn_sub (fun _ h => List.mem_cons_of_mem _ (List.mem_append_right _ h)) (by decide +kernel))
set_option maxRecDepth 20000 in
theorem gL_areSitesSo_X9_goneIn : GoodIn wsL_areSitesSo (wsV RL 71 RX9 yX9_goneIn wsX9_goneIn) := goodIn_app (goodIn_of _ (by decide +kernel)) ggL_areSitesSo_X9_goneIn
set_option maxRecDepth 20000 in
theorem ggL_areSitesSo_X9_whole : GoodIn wsL_areSitesSo wsX9_whole := goodIn_ca (goodIn_r _ [118, 6, 7, 8, 119, 120, 121, 9, 122, 13, 123, 124, 125, 11, 66, 126, 127, 128, 129, 130, 131, 132, 133, 33, 134, 35, 135, 136, 137, 138, 139, 31, 32, 34, 36, 37, 4, 38, 140, 141, 142, 143, 144, 145, 146, 147, 148, 149, 150, 151, 152, 153, 154, 155, 156, 157, 158, 159, 160, 161, 162, 163, 164, 165, 166, 167, 168, 169, 170, 171, 172, 173, 174, 175, 176] (by decide +kernel) (by decide +kernel)) (goodIn_sub (fun _ h => List.mem_cons_of_mem _ (List.mem_append_left _ (List.mem_append_left _ (List.mem_append_right _ h)))) (by decide +kernel))
