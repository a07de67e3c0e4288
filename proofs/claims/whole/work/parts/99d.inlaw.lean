/-! the law's words -/
set_option maxRecDepth 20000 in
theorem inm_wsL_law0_r35 : ∀ w ∈ wsL_law0_r35, sE w ∈ lw_tbl := sE_in (goodIn_r wsL_law0_r35 [514, 515, 516, 517, 85, 518, 519, 520, 521, 522, 524, 525, 86, 526, 527, 528, 87, 529, 530, 531, 532, 533, 534, 535] (by decide +kernel) (by decide +kernel)) (by decide +kernel)
set_option maxRecDepth 20000 in
theorem inm_wsL_law0_r36 : ∀ w ∈ wsL_law0_r36, sE w ∈ lw_tbl := sE_in (goodIn_r wsL_law0_r36 [536, 537, 538, 539, 540, 542, 544, 546, 548, 13, 549, 550, 552, 14, 553, 554, 556, 15, 557, 558, 559, 560, 562, 16] (by decide +kernel) (by decide +kernel)) (by decide +kernel)
set_option maxRecDepth 20000 in
theorem inm_wsL_law0_r37 : ∀ w ∈ wsL_law0_r37, sE w ∈ lw_tbl := fun w h => (goodIn_r (wsL_law0_r37.map sE) [563, 568, 564, 566, 17, 567, 570, 571, 573, 574, 67, 575, 1296, 618, 619, 620, 1234, 1235, 1236, 1237, 969, 970, 1238, 1240] (by decide +kernel) (by decide +kernel) (sE w) (List.mem_map.mpr ⟨w, h, rfl⟩)).1
set_option maxRecDepth 20000 in
theorem inm_wsL_law0_r38 : ∀ w ∈ wsL_law0_r38, sE w ∈ lw_tbl := sE_in (goodIn_r wsL_law0_r38 [57, 1241, 968, 1242, 1244, 58, 1245, 1246, 1248, 59, 1249, 1250, 1252, 60, 1253, 971, 1254, 1256, 61, 1257, 1258, 1260, 62, 1261] (by decide +kernel) (by decide +kernel)) (by decide +kernel)
set_option maxRecDepth 20000 in
theorem inm_wsL_law0_r39 : ∀ w ∈ wsL_law0_r39, sE w ∈ lw_tbl := sE_in (goodIn_r wsL_law0_r39 [1262, 1263, 1264, 1265, 1266, 1267, 1268, 1270, 63, 1271, 1272, 1274, 64, 1275, 1276, 1278, 65, 1279, 940, 941, 942, 943, 944, 945] (by decide +kernel) (by decide +kernel)) (by decide +kernel)
set_option maxRecDepth 20000 in
theorem inm_wsL_law0_r40 : ∀ w ∈ wsL_law0_r40, sE w ∈ lw_tbl := sE_in (goodIn_r wsL_law0_r40 [946, 229, 948, 949, 950, 951, 1280, 1281, 1282, 1283, 653, 654, 655, 656, 657, 658, 659, 660, 661, 662, 742, 744, 26, 745] (by decide +kernel) (by decide +kernel)) (by decide +kernel)
set_option maxRecDepth 20000 in
theorem inm_wsL_law0_r41 : ∀ w ∈ wsL_law0_r41, sE w ∈ lw_tbl := sE_in (goodIn_r wsL_law0_r41 [746, 787, 795, 800, 802, 27, 803, 808, 1284, 1285, 1286, 1287, 1288, 1289] (by decide +kernel) (by decide +kernel)) (by decide +kernel)
set_option maxRecDepth 20000 in
theorem inm_wsX90 : ∀ w ∈ wsX90, sE w ∈ lw_tbl := sE_in (goodIn_r wsX90 [300, 302, 304, 306, 308] (by decide +kernel) (by decide +kernel)) (by decide +kernel)
set_option maxRecDepth 20000 in
theorem inm_wsX100 : ∀ w ∈ wsX100, sE w ∈ lw_tbl := sE_in (goodIn_r wsX100 [973, 975, 977, 979, 981, 983, 985, 987, 989, 991, 993, 995, 997, 999, 1001] (by decide +kernel) (by decide +kernel)) (by decide +kernel)
set_option maxRecDepth 20000 in
theorem inm_wsX50 : ∀ w ∈ wsX50, sE w ∈ lw_tbl := sE_in (goodIn_r wsX50 [198, 200, 202, 204, 206, 208, 210, 212, 214, 216] (by decide +kernel) (by decide +kernel)) (by decide +kernel)
set_option maxRecDepth 20000 in
theorem inm_wsX70 : ∀ w ∈ wsX70, sE w ∈ lw_tbl := sE_in (goodIn_r wsX70 [232, 234, 236] (by decide +kernel) (by decide +kernel)) (by decide +kernel)
set_option maxRecDepth 20000 in
theorem inm_wsX30 : ∀ w ∈ wsX30, sE w ∈ lw_tbl := sE_in (goodIn_r wsX30 [254, 256, 258, 260, 262, 264] (by decide +kernel) (by decide +kernel)) (by decide +kernel)
set_option maxRecDepth 20000 in
theorem inm_wsX20 : ∀ w ∈ wsX20, sE w ∈ lw_tbl := sE_in (goodIn_r wsX20 [281, 283, 285, 287, 289] (by decide +kernel) (by decide +kernel)) (by decide +kernel)
set_option maxRecDepth 20000 in
theorem inm_wsX40 : ∀ w ∈ wsX40, sE w ∈ lw_tbl := sE_in (goodIn_r wsX40 [123, 125, 127, 129, 131, 133, 135] (by decide +kernel) (by decide +kernel)) (by decide +kernel)
set_option maxRecDepth 20000 in
theorem inm_wsX60 : ∀ w ∈ wsX60, sE w ∈ lw_tbl := sE_in (goodIn_r wsX60 [154, 156, 158, 160] (by decide +kernel) (by decide +kernel)) (by decide +kernel)
set_option maxRecDepth 20000 in
theorem inm_wsX10 : ∀ w ∈ wsX10, sE w ∈ lw_tbl := sE_in (goodIn_r wsX10 [173, 175] (by decide +kernel) (by decide +kernel)) (by decide +kernel)
theorem eLaw_in0 : ∀ w ∈ wsL_law0, sE w ∈ lw_tbl := in_app (in_app (in_app (in_app (in_app (in_app (in_app (in_app (in_app (in_app (in_app inm_wsL_law0_r1 (in_app inm_wsL_law0_r2 (in_app inm_wsL_law0_r3 (in_app inm_wsL_law0_r4 (in_app inm_wsL_law0_r5 (in_app inm_wsL_law0_r6 (in_app inm_wsL_law0_r7 (in_app inm_wsL_law0_r8 (in_app inm_wsL_law0_r9 (in_app inm_wsL_law0_r10 (in_app inm_wsL_law0_r11 (in_app inm_wsL_law0_r12 (in_app inm_wsL_law0_r13 (in_app inm_wsL_law0_r14 (in_app inm_wsL_law0_r15 (in_app inm_wsL_law0_r16 (in_app inm_wsL_law0_r17 (in_app inm_wsL_law0_r18 (in_app inm_wsL_law0_r19 (in_app inm_wsL_law0_r20 (in_app inm_wsL_law0_r21 (in_app inm_wsL_law0_r22 (in_app inm_wsL_law0_r23 (in_app inm_wsL_law0_r24 (in_app inm_wsL_law0_r25 (in_app inm_wsL_law0_r26 (in_app inm_wsL_law0_r27 (in_app inm_wsL_law0_r28 (in_app inm_wsL_law0_r29 (in_app inm_wsL_law0_r30 (in_app inm_wsL_law0_r31 (in_app inm_wsL_law0_r32 (in_app inm_wsL_law0_r33 (in_app inm_wsL_law0_r34 (in_app inm_wsL_law0_r35 (in_app inm_wsL_law0_r36 (in_app inm_wsL_law0_r37 (in_app inm_wsL_law0_r38 (in_app inm_wsL_law0_r39 (in_app inm_wsL_law0_r40 (inm_wsL_law0_r41))))))))))))))))))))))))))))))))))))))))) inm_wsX90) inm_wsX100) inm_wsX50) inm_wsX70) inm_wsX30) inm_wsX20) inm_wsX40) inm_wsX60) inm_wsX10) (fun _ h => absurd h List.not_mem_nil)
theorem eLaw_x (X : List Cond) (h : ∀ w ∈ X, w ∈ lw_tbl) (hX : X.all nE = true) : ∀ w ∈ X, sE w ∈ lw_tbl := fun w hw => by
  rw [sE_n (List.all_eq_true.mp hX w hw)]
  exact h w hw
set_option maxRecDepth 20000 in
theorem eLaw_x0 : ∀ w ∈ (vx_atS RX9 190 "java/lang/IndexOutOfBoundsException" ["java/lang/RuntimeException", "java/lang/Exception"]).filter goodWord, sE w ∈ lw_tbl := eLaw_x _ (tb_mem _ [76, 697, 706, 710, 713, 715, 698, 699, 95, 96, 700, 705, 711, 731, 687, 732, 689, 733, 691, 701, 703, 693, 727, 728, 730, 693, 764, 765, 766, 721, 721, 722, 723, 724, 724, 725, 726, 727, 763, 754, 756, 709, 757, 758, 759, 760, 696, 695, 761] (by decide +kernel)) (by decide +kernel)
set_option maxRecDepth 20000 in
theorem eLaw_x1 : ∀ w ∈ (vx_atS RX9 149 "java/lang/IllegalArgumentException" ["java/lang/RuntimeException", "java/lang/Exception"]).filter goodWord, sE w ∈ lw_tbl := eLaw_x _ (tb_mem _ [76, 697, 706, 710, 713, 715, 698, 699, 95, 96, 700, 705, 711, 731, 687, 732, 689, 733, 691, 701, 703, 693, 727, 728, 730, 693, 718, 719, 720, 721, 721, 722, 723, 724, 724, 725, 726, 727, 717, 676, 684, 685, 686, 688, 690, 692, 696, 695, 694] (by decide +kernel)) (by decide +kernel)
set_option maxRecDepth 20000 in
theorem eLaw_x2 : ∀ w ∈ (vx_atS RX9 265 "java/lang/IllegalStateException" ["java/lang/RuntimeException", "java/lang/Exception"]).filter goodWord, sE w ∈ lw_tbl := eLaw_x _ (tb_mem _ [76, 697, 706, 710, 713, 715, 698, 699, 95, 96, 700, 705, 711, 731, 687, 732, 689, 733, 691, 701, 703, 693, 727, 728, 730, 693, 781, 782, 783, 721, 721, 722, 723, 724, 724, 725, 726, 727, 780, 771, 773, 708, 774, 775, 776, 777, 696, 695, 778] (by decide +kernel)) (by decide +kernel)
theorem eLaw_in : ∀ w ∈ eLaw, w ∈ lw_tbl := fun w hw => by
  obtain ⟨w0, h0, rfl⟩ := List.mem_map.mp hw
  exact in_app (P := fun w => sE w ∈ lw_tbl) (in_app (in_app eLaw_in0 eLaw_x0) eLaw_x1) eLaw_x2 w0 h0
