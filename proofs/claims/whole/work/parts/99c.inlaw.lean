/-! the law's words -/
set_option maxRecDepth 20000 in
theorem inm_wsL_law0_r18 : ∀ w ∈ wsL_law0_r18, sE w ∈ lw_tbl := sE_in (goodIn_r wsL_law0_r18 [354, 355, 356, 357, 358, 359, 360, 361, 362, 363, 364, 379, 368, 369, 370, 371, 372, 373, 374, 380, 382, 1, 383, 388] (by decide +kernel) (by decide +kernel)) (by decide +kernel)
set_option maxRecDepth 20000 in
theorem inm_wsL_law0_r19 : ∀ w ∈ wsL_law0_r19, sE w ∈ lw_tbl := sE_in (goodIn_r wsL_law0_r19 [389, 390, 391, 1103, 1104, 1105, 1106, 1107, 1109, 42, 1110, 1111, 1112, 1113, 1114, 1116, 43, 1117, 1118, 1120, 44, 1121, 854, 855] (by decide +kernel) (by decide +kernel)) (by decide +kernel)
set_option maxRecDepth 20000 in
theorem inm_wsL_law0_r20 : ∀ w ∈ wsL_law0_r20, sE w ∈ lw_tbl := sE_in (goodIn_r wsL_law0_r20 [856, 857, 858, 859, 860, 197, 171, 861, 863, 28, 864, 865, 866, 867, 868, 869, 870, 871, 1122, 1123, 1124, 1125, 392, 393] (by decide +kernel) (by decide +kernel)) (by decide +kernel)
set_option maxRecDepth 20000 in
theorem inm_wsL_law0_r21 : ∀ w ∈ wsL_law0_r21, sE w ∈ lw_tbl := sE_in (goodIn_r wsL_law0_r21 [394, 395, 1126, 1127, 1128, 1129, 872, 873, 874, 875, 788, 789, 790, 118, 121, 187, 792, 793, 794, 1130, 1131, 1132, 1133, 1134] (by decide +kernel) (by decide +kernel)) (by decide +kernel)
set_option maxRecDepth 20000 in
theorem inm_wsL_law0_r22 : ∀ w ∈ wsL_law0_r22, sE w ∈ lw_tbl := sE_in (goodIn_r wsL_law0_r22 [1136, 45, 1137, 876, 877, 878, 879, 747, 748, 749, 114, 116, 786, 439, 440, 441, 1138, 1139, 1140, 1141, 1142, 1144, 46, 1145] (by decide +kernel) (by decide +kernel)) (by decide +kernel)
set_option maxRecDepth 20000 in
theorem inm_wsL_law0_r23 : ∀ w ∈ wsL_law0_r23, sE w ∈ lw_tbl := sE_in (goodIn_r wsL_law0_r23 [1146, 1148, 47, 1149, 880, 881, 882, 883, 796, 797, 798, 148, 151, 153, 1150, 1151, 1152, 1153, 1154, 1156, 48, 1157, 884, 885] (by decide +kernel) (by decide +kernel)) (by decide +kernel)
set_option maxRecDepth 20000 in
theorem inm_wsL_law0_r24 : ∀ w ∈ wsL_law0_r24, sE w ∈ lw_tbl := sE_in (goodIn_r wsL_law0_r24 [886, 887, 663, 664, 665, 181, 183, 185, 189, 246, 666, 409, 410, 411, 667, 668, 669, 670, 671, 1158, 1159, 1160, 1161, 1162] (by decide +kernel) (by decide +kernel)) (by decide +kernel)
set_option maxRecDepth 20000 in
theorem inm_wsL_law0_r25 : ∀ w ∈ wsL_law0_r25, sE w ∈ lw_tbl := sE_in (goodIn_r wsL_law0_r25 [1164, 49, 1165, 967, 396, 397, 398, 399, 275, 400, 401, 402, 403, 274, 404, 408, 412, 414, 3, 415, 278, 170, 416, 417] (by decide +kernel) (by decide +kernel)) (by decide +kernel)
set_option maxRecDepth 20000 in
theorem inm_wsL_law0_r26 : ∀ w ∈ wsL_law0_r26, sE w ∈ lw_tbl := sE_in (goodIn_r wsL_law0_r26 [418, 419, 426, 428, 4, 429, 430, 432, 5, 433, 434, 436, 6, 437, 438, 1166, 1167, 1168, 1169, 964, 1170, 1172, 50, 1173] (by decide +kernel) (by decide +kernel)) (by decide +kernel)
set_option maxRecDepth 20000 in
theorem inm_wsL_law0_r27 : ∀ w ∈ wsL_law0_r27, sE w ∈ lw_tbl := sE_in (goodIn_r wsL_law0_r27 [965, 1174, 1176, 51, 1177, 1178, 1180, 52, 1181, 888, 889, 890, 891, 892, 893, 894, 804, 805, 806, 807, 1182, 1183, 1184, 1185] (by decide +kernel) (by decide +kernel)) (by decide +kernel)
set_option maxRecDepth 20000 in
theorem inm_wsL_law0_r28 : ∀ w ∈ wsL_law0_r28, sE w ∈ lw_tbl := sE_in (goodIn_r wsL_law0_r28 [442, 443, 444, 445, 277, 1186, 1187, 1188, 1189, 896, 897, 898, 899, 900, 901, 902, 1190, 1191, 1192, 1193, 903, 904, 905, 906] (by decide +kernel) (by decide +kernel)) (by decide +kernel)
set_option maxRecDepth 20000 in
theorem inm_wsL_law0_r29 : ∀ w ∈ wsL_law0_r29, sE w ∈ lw_tbl := sE_in (goodIn_r wsL_law0_r29 [907, 908, 909, 450, 451, 453, 7, 454, 455, 1194, 1195, 1196, 1197, 1198, 1200, 53, 1201, 1202, 1204, 54, 1205, 1206, 1208, 55] (by decide +kernel) (by decide +kernel)) (by decide +kernel)
set_option maxRecDepth 20000 in
theorem inm_wsL_law0_r30 : ∀ w ∈ wsL_law0_r30, sE w ∈ lw_tbl := sE_in (goodIn_r wsL_law0_r30 [1209, 911, 912, 913, 914, 915, 916, 917, 1210, 1211, 1212, 1213, 446, 447, 448, 449, 1214, 1215, 1216, 1217, 1218, 1220, 56, 1221] (by decide +kernel) (by decide +kernel)) (by decide +kernel)
set_option maxRecDepth 20000 in
theorem inm_wsL_law0_r31 : ∀ w ∈ wsL_law0_r31, sE w ∈ lw_tbl := sE_in (goodIn_r wsL_law0_r31 [918, 919, 920, 921, 922, 923, 924, 926, 1222, 1223, 1224, 1225, 927, 928, 929, 930, 931, 932, 933, 936, 937, 938, 939, 245] (by decide +kernel) (by decide +kernel)) (by decide +kernel)
set_option maxRecDepth 20000 in
theorem inm_wsL_law0_r32 : ∀ w ∈ wsL_law0_r32, sE w ∈ lw_tbl := sE_in (goodIn_r wsL_law0_r32 [1226, 1227, 1228, 1229, 456, 457, 458, 459, 1230, 1231, 1232, 1233, 460, 461, 462, 463, 248, 250, 464, 465, 466, 467, 468, 469] (by decide +kernel) (by decide +kernel)) (by decide +kernel)
set_option maxRecDepth 20000 in
theorem inm_wsL_law0_r33 : ∀ w ∈ wsL_law0_r33, sE w ∈ lw_tbl := sE_in (goodIn_r wsL_law0_r33 [470, 471, 251, 472, 473, 474, 475, 247, 1295, 476, 478, 8, 479, 480, 482, 9, 483, 484, 486, 10, 487, 488, 490, 11] (by decide +kernel) (by decide +kernel)) (by decide +kernel)
set_option maxRecDepth 20000 in
theorem inm_wsL_law0_r34 : ∀ w ∈ wsL_law0_r34, sE w ∈ lw_tbl := sE_in (goodIn_r wsL_law0_r34 [491, 1292, 494, 496, 12, 497, 498, 499, 500, 84, 501, 1293, 502, 503, 504, 505, 506, 1294, 508, 509, 510, 511, 512, 513] (by decide +kernel) (by decide +kernel)) (by decide +kernel)
