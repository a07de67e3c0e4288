/-! the law's words -/
theorem in_app {a b : List Cond} {P : Cond → Prop} (h1 : ∀ w ∈ a, P w) (h2 : ∀ w ∈ b, P w) : ∀ w ∈ a ++ b, P w := fun w h => (List.mem_append.mp h).elim (h1 w) (h2 w)
theorem sE_in {X : List Cond} (h : GoodIn lw_tbl X) (hX : X.all nE = true) : ∀ w ∈ X, sE w ∈ lw_tbl := fun w hw => by
  rw [sE_n (List.all_eq_true.mp hX w hw)]
  exact (h w hw).1
set_option maxRecDepth 20000 in
theorem inm_wsL_law0_r1 : ∀ w ∈ wsL_law0_r1, sE w ∈ lw_tbl := sE_in (goodIn_r wsL_law0_r1 [89, 90, 67, 952, 953, 75, 1290, 91, 92, 93, 94, 95, 96, 97, 98, 68, 295, 219, 220, 72, 296, 239, 240, 73] (by decide +kernel) (by decide +kernel)) (by decide +kernel)
set_option maxRecDepth 20000 in
theorem inm_wsL_law0_r2 : ∀ w ∈ wsL_law0_r2, sE w ∈ lw_tbl := sE_in (goodIn_r wsL_law0_r2 [297, 268, 269, 74, 298, 293, 104, 69, 299, 100, 101, 102, 138, 190, 103, 192, 139, 140, 70, 194, 163, 164, 71, 196] (by decide +kernel) (by decide +kernel)) (by decide +kernel)
set_option maxRecDepth 20000 in
theorem inm_wsL_law0_r3 : ∀ w ∈ wsL_law0_r3, sE w ∈ lw_tbl := sE_in (goodIn_r wsL_law0_r3 [106, 107, 108, 109, 111, 113, 115, 117, 119, 122, 142, 143, 144, 147, 149, 152, 166, 167, 168, 172, 221, 222, 223, 224] (by decide +kernel) (by decide +kernel)) (by decide +kernel)
set_option maxRecDepth 20000 in
theorem inm_wsL_law0_r4 : ∀ w ∈ wsL_law0_r4, sE w ∈ lw_tbl := sE_in (goodIn_r wsL_law0_r4 [225, 231, 242, 243, 244, 249, 252, 267, 253, 271, 272, 273, 276, 292, 279, 280, 954, 955, 956, 957, 958, 959, 960, 963] (by decide +kernel) (by decide +kernel)) (by decide +kernel)
set_option maxRecDepth 20000 in
theorem inm_wsL_law0_r5 : ∀ w ∈ wsL_law0_r5, sE w ∈ lw_tbl := sE_in (goodIn_r wsL_law0_r5 [966, 972, 809, 810, 66, 811, 812, 813, 814, 815, 816, 817, 179, 576, 578, 18, 579, 423, 424, 425, 750, 751, 752, 753] (by decide +kernel) (by decide +kernel)) (by decide +kernel)
set_option maxRecDepth 20000 in
theorem inm_wsL_law0_r6 : ∀ w ∈ wsL_law0_r6, sE w ∈ lw_tbl := sE_in (goodIn_r wsL_law0_r6 [79, 675, 80, 770, 81, 315, 316, 317, 318, 230, 228, 347, 327, 82, 328, 319, 320, 321, 322, 178, 180, 182, 184, 186] (by decide +kernel) (by decide +kernel)) (by decide +kernel)
set_option maxRecDepth 20000 in
theorem inm_wsL_law0_r7 : ∀ w ∈ wsL_law0_r7, sE w ∈ lw_tbl := sE_in (goodIn_r wsL_law0_r7 [188, 324, 325, 326, 329, 331, 330, 83, 332, 333, 334, 335, 337, 338, 339, 340, 145, 342, 343, 344, 345, 169, 621, 622] (by decide +kernel) (by decide +kernel)) (by decide +kernel)
set_option maxRecDepth 20000 in
theorem inm_wsL_law0_r8 : ∀ w ∈ wsL_law0_r8, sE w ∈ lw_tbl := sE_in (goodIn_r wsL_law0_r8 [623, 624, 1008, 1009, 1010, 1011, 1012, 1014, 29, 1015, 1016, 1017, 1018, 1019, 1021, 30, 1022, 962, 1023, 1025, 31, 1026, 961, 1004] (by decide +kernel) (by decide +kernel)) (by decide +kernel)
set_option maxRecDepth 20000 in
theorem inm_wsL_law0_r9 : ∀ w ∈ wsL_law0_r9, sE w ∈ lw_tbl := sE_in (goodIn_r wsL_law0_r9 [1005, 1006, 1007, 818, 819, 820, 821, 822, 823, 824, 191, 580, 582, 19, 583, 625, 626, 627, 628, 1027, 1028, 1029, 1030, 1031] (by decide +kernel) (by decide +kernel)) (by decide +kernel)
set_option maxRecDepth 20000 in
theorem inm_wsL_law0_r10 : ∀ w ∈ wsL_law0_r10, sE w ∈ lw_tbl := sE_in (goodIn_r wsL_law0_r10 [1033, 32, 1034, 1035, 1036, 1037, 825, 826, 827, 828, 829, 830, 831, 832, 193, 110, 584, 586, 20, 587, 588, 421, 422, 629] (by decide +kernel) (by decide +kernel)) (by decide +kernel)
set_option maxRecDepth 20000 in
theorem inm_wsL_law0_r11 : ∀ w ∈ wsL_law0_r11, sE w ∈ lw_tbl := sE_in (goodIn_r wsL_law0_r11 [630, 631, 632, 633, 634, 635, 636, 366, 367, 1038, 1039, 1040, 1041, 1042, 1044, 33, 1045, 1046, 1047, 1048, 833, 834, 835, 836] (by decide +kernel) (by decide +kernel)) (by decide +kernel)
set_option maxRecDepth 20000 in
theorem inm_wsL_law0_r12 : ∀ w ∈ wsL_law0_r12, sE w ∈ lw_tbl := sE_in (goodIn_r wsL_law0_r12 [837, 838, 839, 112, 615, 616, 617, 672, 673, 674, 1049, 1050, 1051, 1052, 1053, 1055, 34, 1056, 1057, 1059, 35, 1060, 840, 841] (by decide +kernel) (by decide +kernel)) (by decide +kernel)
set_option maxRecDepth 20000 in
theorem inm_wsL_law0_r13 : ∀ w ∈ wsL_law0_r13, sE w ∈ lw_tbl := sE_in (goodIn_r wsL_law0_r13 [842, 843, 844, 845, 846, 195, 146, 589, 591, 21, 592, 637, 638, 639, 640, 1061, 1062, 1063, 1064, 1065, 1067, 36, 1068, 847] (by decide +kernel) (by decide +kernel)) (by decide +kernel)
set_option maxRecDepth 20000 in
theorem inm_wsL_law0_r14 : ∀ w ∈ wsL_law0_r14, sE w ∈ lw_tbl := sE_in (goodIn_r wsL_law0_r14 [848, 849, 850, 851, 852, 853, 593, 595, 22, 596, 597, 599, 23, 600, 601, 603, 24, 604, 605, 606, 607, 608, 120, 150] (by decide +kernel) (by decide +kernel)) (by decide +kernel)
set_option maxRecDepth 20000 in
theorem inm_wsL_law0_r15 : ∀ w ∈ wsL_law0_r15, sE w ∈ lw_tbl := sE_in (goodIn_r wsL_law0_r15 [609, 405, 406, 407, 375, 377, 0, 378, 611, 612, 613, 614, 641, 642, 643, 644, 645, 646, 647, 648, 649, 650, 651, 652] (by decide +kernel) (by decide +kernel)) (by decide +kernel)
set_option maxRecDepth 20000 in
theorem inm_wsL_law0_r16 : ∀ w ∈ wsL_law0_r16, sE w ∈ lw_tbl := sE_in (goodIn_r wsL_law0_r16 [384, 386, 2, 387, 1069, 1070, 1071, 1072, 1073, 1075, 37, 1076, 1077, 1079, 38, 1080, 1081, 1082, 1083, 1084, 1086, 39, 1087, 1088] (by decide +kernel) (by decide +kernel)) (by decide +kernel)
set_option maxRecDepth 20000 in
theorem inm_wsL_law0_r17 : ∀ w ∈ wsL_law0_r17, sE w ∈ lw_tbl := sE_in (goodIn_r wsL_law0_r17 [1089, 1090, 1091, 1093, 40, 1094, 311, 312, 313, 314, 348, 349, 350, 351, 352, 1095, 1096, 1097, 1098, 1099, 1101, 41, 1102, 353] (by decide +kernel) (by decide +kernel)) (by decide +kernel)
