/-! the law's words, on -/
set_option maxRecDepth 20000 in
theorem inm_r12 : ∀ w ∈ wsL_law0_r12, w ∈ lw_tbl := fun w h => (goodIn_p wsL_law0_r12 [537, 633, 527, 440, 639, 643] (by decide +kernel) (by decide +kernel) w h).1
set_option maxRecDepth 20000 in
theorem inm_r13 : ∀ w ∈ wsL_law0_r13, w ∈ lw_tbl := fun w h => (goodIn_p wsL_law0_r13 [647, 651, 655, 659, 449, 663] (by decide +kernel) (by decide +kernel) w h).1
set_option maxRecDepth 20000 in
theorem inm_r14 : ∀ w ∈ wsL_law0_r14, w ∈ lw_tbl := fun w h => (goodIn_p wsL_law0_r14 [667, 672, 676, 679, 683, 418] (by decide +kernel) (by decide +kernel) w h).1
set_option maxRecDepth 20000 in
theorem inm_r15 : ∀ w ∈ wsL_law0_r15, w ∈ lw_tbl := fun w h => (goodIn_p wsL_law0_r15 [422, 426, 432, 436, 445, 453] (by decide +kernel) (by decide +kernel) w h).1
set_option maxRecDepth 20000 in
theorem inm_r16 : ∀ w ∈ wsL_law0_r16, w ∈ lw_tbl := fun w h => (goodIn_p wsL_law0_r16 [693, 472, 478, 686, 522] (by decide +kernel) (by decide +kernel) w h).1
set_option maxRecDepth 20000 in
theorem inm_r17 : ∀ w ∈ wsL_law0_r17, w ∈ lw_tbl := fun w h => (goodIn_p wsL_law0_r17 [690, 697, 700, 704, 546] (by decide +kernel) (by decide +kernel) w h).1
set_option maxRecDepth 20000 in
theorem inm_r18 : ∀ w ∈ wsL_law0_r18, w ∈ lw_tbl := fun w h => (goodIn_p wsL_law0_r18 [552, 556, 561, 565, 569] (by decide +kernel) (by decide +kernel) w h).1
set_option maxRecDepth 20000 in
theorem inm_r19 : ∀ w ∈ wsL_law0_r19, w ∈ lw_tbl := fun w h => (goodIn_p wsL_law0_r19 [708, 712, 574, 492, 496] (by decide +kernel) (by decide +kernel) w h).1
set_option maxRecDepth 20000 in
theorem inm_r20 : ∀ w ∈ wsL_law0_r20, w ∈ lw_tbl := fun w h => (goodIn_p wsL_law0_r20 [517, 533, 542, 578, 483] (by decide +kernel) (by decide +kernel) w h).1
set_option maxRecDepth 20000 in
theorem inm_r21 : ∀ w ∈ wsL_law0_r21, w ∈ lw_tbl := fun w h => (goodIn_p wsL_law0_r21 [488] (by decide +kernel) (by decide +kernel) w h).1
theorem inu_X9 : ∀ w ∈ wsX90, w ∈ lw_tbl := by decide +kernel
theorem inu_X5 : ∀ w ∈ wsX50, w ∈ lw_tbl := by decide +kernel
theorem inu_X7 : ∀ w ∈ wsX70, w ∈ lw_tbl := by decide +kernel
theorem inu_X3 : ∀ w ∈ wsX30, w ∈ lw_tbl := by decide +kernel
theorem inu_X2 : ∀ w ∈ wsX20, w ∈ lw_tbl := by decide +kernel
theorem inu_X4 : ∀ w ∈ wsX40, w ∈ lw_tbl := by decide +kernel
theorem inu_X6 : ∀ w ∈ wsX60, w ∈ lw_tbl := by decide +kernel
theorem inu_X1 : ∀ w ∈ wsX10, w ∈ lw_tbl := by decide +kernel
theorem wsL_law_in0 : ∀ w ∈ wsL_law0, w ∈ lw_tbl := (in_app (in_app (in_app (in_app (in_app (in_app (in_app (in_app (in_app (in_app inm_r1 (in_app inm_r2 (in_app inm_r3 (in_app inm_r4 (in_app inm_r5 (in_app inm_r6 (in_app inm_r7 (in_app inm_r8 (in_app inm_r9 (in_app inm_r10 (in_app inm_r11 (in_app inm_r12 (in_app inm_r13 (in_app inm_r14 (in_app inm_r15 (in_app inm_r16 (in_app inm_r17 (in_app inm_r18 (in_app inm_r19 (in_app inm_r20 inm_r21)))))))))))))))))))) inu_X9) inu_X5) inu_X7) inu_X3) inu_X2) inu_X4) inu_X6) inu_X1) (fun w h => absurd h List.not_mem_nil))
