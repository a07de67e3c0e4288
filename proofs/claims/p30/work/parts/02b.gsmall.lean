set_option maxRecDepth 20000 in
theorem ggX1_copyFrom_X9_copyRow : GoodIn wsX1_copyFrom wsX9_copyRow := goodIn_r _ [5, 6, 7, 8, 9, 10, 11, 12, 13] (by decide +kernel) (by decide +kernel)
set_option maxRecDepth 20000 in
theorem gX1_copyFrom_X9_copyRow_n19 : GoodIn wsX1_copyFrom (wsX9_copyRow) := ggX1_copyFrom_X9_copyRow
set_option maxRecDepth 20000 in
theorem ggX1_choiceAmong_X9_isSite : GoodIn wsX1_choiceAmong wsX9_isSite := goodIn_r _ [4, 5, 6, 3, 7] (by decide +kernel) (by decide +kernel)
set_option maxRecDepth 20000 in
theorem gX1_choiceAmong_X9_isSite_n23 : GoodIn wsX1_choiceAmong (wsX9_isSite) := ggX1_choiceAmong_X9_isSite
set_option maxRecDepth 20000 in
theorem ggX2_take_X4_hasBlock : GoodIn wsX2_take wsX4_hasBlock := goodIn_r _ [8, 9, 10, 11, 7, 12, 13, 62, 63, 64, 65, 66, 67, 68] (by decide +kernel) (by decide +kernel)
set_option maxRecDepth 20000 in
theorem gX2_take_X4_hasBlock : GoodIn wsX2_take (wsV RX2 26 RX4 yX4_hasBlock wsX4_hasBlock) := goodIn_app (goodIn_of _ (by decide +kernel)) ggX2_take_X4_hasBlock
set_option maxRecDepth 20000 in
theorem ggX2_take_X4_sculptures : GoodIn wsX2_take wsX4_sculptures := goodIn_r _ [17, 13, 62, 63, 64, 65, 66, 67, 68] (by decide +kernel) (by decide +kernel)
set_option maxRecDepth 20000 in
theorem gX2_take_X4_sculptures : GoodIn wsX2_take (wsV RX2 32 RX4 yX4_sculptures wsX4_sculptures) := goodIn_app (goodIn_of _ (by decide +kernel)) ggX2_take_X4_sculptures
set_option maxRecDepth 20000 in
theorem ggX2_take_X2_countVotes : GoodIn wsX2_take wsX2_countVotes := goodIn_r _ [22, 23, 24, 3, 25, 26, 27, 28, 29, 30, 31, 32, 33, 34, 35, 36, 37, 57, 58, 59, 60, 61, 69, 70] (by decide +kernel) (by decide +kernel)
set_option maxRecDepth 20000 in
theorem gX2_take_X2_countVotes : GoodIn wsX2_take (wsV RX2 36 RX2 yX2_countVotes wsX2_countVotes) := goodIn_app (goodIn_of _ (by decide +kernel)) ggX2_take_X2_countVotes
set_option maxRecDepth 20000 in
theorem ggX2_take_X2_winnerOf : GoodIn wsX2_take wsX2_winnerOf := goodIn_r _ [41, 3, 24, 23, 57, 58, 59, 60, 61] (by decide +kernel) (by decide +kernel)
set_option maxRecDepth 20000 in
theorem gX2_take_X2_winnerOf : GoodIn wsX2_take (wsV RX2 40 RX2 yX2_winnerOf wsX2_winnerOf) := goodIn_app (goodIn_of _ (by decide +kernel)) ggX2_take_X2_winnerOf
set_option maxRecDepth 20000 in
theorem ggX2_take_X2_dropWeakest : GoodIn wsX2_take wsX2_dropWeakest := goodIn_r _ [45, 3, 46, 47, 48, 21, 49, 24, 50, 51, 52, 7, 53, 13, 54, 55, 33, 56, 57, 58, 59, 60, 61, 62, 63, 64, 65, 66, 67, 68] (by decide +kernel) (by decide +kernel)
set_option maxRecDepth 20000 in
theorem gX2_take_X2_dropWeakest : GoodIn wsX2_take (wsV RX2 44 RX2 yX2_dropWeakest wsX2_dropWeakest) := goodIn_app (goodIn_of _ (by decide +kernel)) ggX2_take_X2_dropWeakest
set_option maxRecDepth 20000 in
theorem ggX2_countVotes_X1_choiceAmong : GoodIn wsX2_countVotes wsX1_choiceAmong := goodIn_r _ [9, 10, 11, 12, 13, 14, 15, 16, 22, 23] (by decide +kernel) (by decide +kernel)
set_option maxRecDepth 20000 in
theorem gX2_countVotes_X1_choiceAmong : GoodIn wsX2_countVotes (wsV RX2 56 RX1 yX1_choiceAmong wsX1_choiceAmong) := goodIn_app (goodIn_of _ (by decide +kernel)) ggX2_countVotes_X1_choiceAmong
set_option maxRecDepth 20000 in
theorem ggX2_dropWeakest_X2_isNotStronger : GoodIn wsX2_dropWeakest wsX2_isNotStronger := goodIn_r _ [6, 7, 8, 9, 10, 11, 12, 13, 14, 15, 16, 17, 18, 19, 20, 21, 22, 23, 24, 25, 26, 27, 28, 29] (by decide +kernel) (by decide +kernel)
set_option maxRecDepth 20000 in
theorem gX2_dropWeakest_X2_isNotStronger : GoodIn wsX2_dropWeakest (wsV RX2 60 RX2 yX2_isNotStronger wsX2_isNotStronger) := goodIn_app (goodIn_of _ (by decide +kernel)) ggX2_dropWeakest_X2_isNotStronger
set_option maxRecDepth 20000 in
theorem ggX2_isNotStronger_X4_volumeOf : GoodIn wsX2_isNotStronger wsX4_volumeOf := goodIn_r _ [6, 7, 8, 9, 10, 11, 17, 18, 19, 20, 21, 22, 23] (by decide +kernel) (by decide +kernel)
set_option maxRecDepth 20000 in
theorem gX2_isNotStronger_X4_volumeOf : GoodIn wsX2_isNotStronger (wsV RX2 64 RX4 yX4_volumeOf wsX4_volumeOf) := goodIn_app (goodIn_of _ (by decide +kernel)) ggX2_isNotStronger_X4_volumeOf
set_option maxRecDepth 20000 in
theorem ggX4_copyFrom_X9_copyRow : GoodIn wsX4_copyFrom wsX9_copyRow := goodIn_r _ [9, 10, 11, 12, 13, 14, 15, 16, 17] (by decide +kernel) (by decide +kernel)
set_option maxRecDepth 20000 in
theorem gX4_copyFrom_X9_copyRow_n33 : GoodIn wsX4_copyFrom (wsX9_copyRow) := ggX4_copyFrom_X9_copyRow
set_option maxRecDepth 20000 in
theorem ggX4_hasBlock_X4_heightAt : GoodIn wsX4_hasBlock wsX4_heightAt := goodIn_r _ [5, 6, 7, 8, 9, 10, 11, 12, 13] (by decide +kernel) (by decide +kernel)
set_option maxRecDepth 20000 in
theorem gX4_hasBlock_X4_heightAt : GoodIn wsX4_hasBlock (wsV RX4 37 RX4 yX4_heightAt wsX4_heightAt) := goodIn_app (goodIn_of _ (by decide +kernel)) ggX4_hasBlock_X4_heightAt
set_option maxRecDepth 20000 in
theorem ggX4_add_X9_placeOf : GoodIn wsX4_add wsX9_placeOf := goodIn_r _ [6] (by decide +kernel) (by decide +kernel)
set_option maxRecDepth 20000 in
theorem gX4_add_X9_placeOf_n41 : GoodIn wsX4_add (wsX9_placeOf) := ggX4_add_X9_placeOf
set_option maxRecDepth 20000 in
theorem ggX4_cut_X9_placeOf : GoodIn wsX4_cut wsX9_placeOf := goodIn_r _ [5] (by decide +kernel) (by decide +kernel)
set_option maxRecDepth 20000 in
theorem gX4_cut_X9_placeOf_n41 : GoodIn wsX4_cut (wsX9_placeOf) := ggX4_cut_X9_placeOf
set_option maxRecDepth 20000 in
theorem ggX4_cut_X4_dropGone : GoodIn wsX4_cut wsX4_dropGone := goodIn_r _ [10, 11, 1, 12, 3, 4, 5, 13, 14, 15, 16, 17, 18, 19] (by decide +kernel) (by decide +kernel)
set_option maxRecDepth 20000 in
theorem gX4_cut_X4_dropGone : GoodIn wsX4_cut (wsV RX4 45 RX4 yX4_dropGone wsX4_dropGone) := goodIn_app (goodIn_of _ (by decide +kernel)) ggX4_cut_X4_dropGone
set_option maxRecDepth 20000 in
theorem ggX4_melt_X9_placeOf : GoodIn wsX4_melt wsX9_placeOf := goodIn_r _ [11] (by decide +kernel) (by decide +kernel)
set_option maxRecDepth 20000 in
theorem gX4_melt_X9_placeOf_n41 : GoodIn wsX4_melt (wsX9_placeOf) := ggX4_melt_X9_placeOf
set_option maxRecDepth 20000 in
theorem ggX4_melt_X4_rateOf : GoodIn wsX4_melt wsX4_rateOf := goodIn_r _ [15] (by decide +kernel) (by decide +kernel)
set_option maxRecDepth 20000 in
theorem gX4_melt_X4_rateOf : GoodIn wsX4_melt (va_wsS RX4 49 yX4_rateOf wsX4_rateOf) := goodIn_app (goodIn_of _ (by decide +kernel)) ggX4_melt_X4_rateOf
set_option maxRecDepth 20000 in
theorem ggX4_melt_X4_facesInSun : GoodIn wsX4_melt wsX4_facesInSun := goodIn_r _ [19, 20, 1, 21, 22, 23, 14, 24, 34, 35, 36, 37, 38, 39, 40] (by decide +kernel) (by decide +kernel)
set_option maxRecDepth 20000 in
theorem gX4_melt_X4_facesInSun : GoodIn wsX4_melt (wsV RX4 52 RX4 yX4_facesInSun wsX4_facesInSun) := goodIn_app (goodIn_of _ (by decide +kernel)) ggX4_melt_X4_facesInSun
set_option maxRecDepth 20000 in
theorem ggX4_melt_X4_takeLosses : GoodIn wsX4_melt wsX4_takeLosses := goodIn_r _ [28, 1, 4, 3, 29, 9, 10, 11, 30, 31, 32, 14, 33, 2, 34, 35, 36, 37, 38, 39, 40] (by decide +kernel) (by decide +kernel)
set_option maxRecDepth 20000 in
theorem gX4_melt_X4_takeLosses : GoodIn wsX4_melt (wsV RX4 61 RX4 yX4_takeLosses wsX4_takeLosses) := goodIn_app (goodIn_of _ (by decide +kernel)) ggX4_melt_X4_takeLosses
set_option maxRecDepth 20000 in
theorem ggX4_takeLosses_X9_placeOf : GoodIn wsX4_takeLosses wsX9_placeOf := goodIn_r _ [7] (by decide +kernel) (by decide +kernel)
set_option maxRecDepth 20000 in
theorem gX4_takeLosses_X9_placeOf_n41 : GoodIn wsX4_takeLosses (wsX9_placeOf) := ggX4_takeLosses_X9_placeOf
set_option maxRecDepth 20000 in
theorem ggX4_takeLosses_X4_dropGone : GoodIn wsX4_takeLosses wsX4_dropGone := goodIn_r _ [12, 1, 2, 13, 5, 6, 7, 14, 15, 16, 17, 18, 19, 20] (by decide +kernel) (by decide +kernel)
set_option maxRecDepth 20000 in
theorem gX4_takeLosses_X4_dropGone : GoodIn wsX4_takeLosses (wsV RX4 45 RX4 yX4_dropGone wsX4_dropGone) := goodIn_app (goodIn_of _ (by decide +kernel)) ggX4_takeLosses_X4_dropGone
set_option maxRecDepth 20000 in
theorem ggX4_dropGone_X9_placeOf : GoodIn wsX4_dropGone wsX9_placeOf := goodIn_r _ [6] (by decide +kernel) (by decide +kernel)
set_option maxRecDepth 20000 in
theorem gX4_dropGone_X9_placeOf_n41 : GoodIn wsX4_dropGone (wsX9_placeOf) := ggX4_dropGone_X9_placeOf
set_option maxRecDepth 20000 in
theorem ggX4_facesInSun_X4_heightAt : GoodIn wsX4_facesInSun wsX4_heightAt := goodIn_r _ [7, 2, 8, 9, 10, 11, 12, 13, 14] (by decide +kernel) (by decide +kernel)
set_option maxRecDepth 20000 in
theorem gX4_facesInSun_X4_heightAt : GoodIn wsX4_facesInSun (wsV RX4 37 RX4 yX4_heightAt wsX4_heightAt) := goodIn_app (goodIn_of _ (by decide +kernel)) ggX4_facesInSun_X4_heightAt
set_option maxRecDepth 20000 in
theorem ggX4_volumeOf_X9_placeOf : GoodIn wsX4_volumeOf wsX9_placeOf := goodIn_r _ [5] (by decide +kernel) (by decide +kernel)
set_option maxRecDepth 20000 in
theorem gX4_volumeOf_X9_placeOf_n41 : GoodIn wsX4_volumeOf (wsX9_placeOf) := ggX4_volumeOf_X9_placeOf
set_option maxRecDepth 20000 in
theorem ggX4_volumeOfAll_X4_volumeOf : GoodIn wsX4_volumeOfAll wsX4_volumeOf := goodIn_r _ [5, 6, 7, 8, 9, 10, 11, 12, 13, 14, 15, 16, 17] (by decide +kernel) (by decide +kernel)
set_option maxRecDepth 20000 in
theorem gX4_volumeOfAll_X4_volumeOf : GoodIn wsX4_volumeOfAll (wsV RX4 64 RX4 yX4_volumeOf wsX4_volumeOf) := goodIn_app (goodIn_of _ (by decide +kernel)) ggX4_volumeOfAll_X4_volumeOf
set_option maxRecDepth 20000 in
theorem ggX5_init_X4_init : GoodIn wsX5_init wsX4_init := goodIn_r _ [19, 20, 2, 3, 4, 21, 22, 23, 24, 25, 26, 27, 48, 49, 50, 51, 52, 53, 54] (by decide +kernel) (by decide +kernel)
set_option maxRecDepth 20000 in
theorem gX5_init_X4_init_n17 : GoodIn wsX5_init (wsX4_init) := ggX5_init_X4_init
set_option maxRecDepth 20000 in
theorem ggX5_init_X6_init : GoodIn wsX5_init wsX6_init := goodIn_r _ [29, 30, 2, 3, 4, 31, 32, 33, 55, 56, 57, 58] (by decide +kernel) (by decide +kernel)
set_option maxRecDepth 20000 in
theorem gX5_init_X6_init_n24 : GoodIn wsX5_init (wsX6_init) := ggX5_init_X6_init
set_option maxRecDepth 20000 in
theorem ggX5_init_X1_init : GoodIn wsX5_init wsX1_init := goodIn_r _ [35, 36, 2, 3, 4, 37, 59, 60] (by decide +kernel) (by decide +kernel)
set_option maxRecDepth 20000 in
theorem gX5_init_X1_init_n31 : GoodIn wsX5_init (wsX1_init) := ggX5_init_X1_init
set_option maxRecDepth 20000 in
theorem ggX5_copyFrom_X9_copyRow : GoodIn wsX5_copyFrom wsX9_copyRow := goodIn_r _ [13, 14, 15, 16, 17, 18, 19, 20, 21] (by decide +kernel) (by decide +kernel)
set_option maxRecDepth 20000 in
theorem gX5_copyFrom_X9_copyRow_n55 : GoodIn wsX5_copyFrom (wsX9_copyRow) := ggX5_copyFrom_X9_copyRow
set_option maxRecDepth 20000 in
theorem ggX5_copyFrom_X4_copyFrom : GoodIn wsX5_copyFrom wsX4_copyFrom := goodIn_r _ [26, 27, 28, 29, 30, 31, 32, 11, 12, 13, 14, 15, 16, 17, 18, 19, 20, 21, 59, 60, 61, 62, 63, 64, 65] (by decide +kernel) (by decide +kernel)
set_option maxRecDepth 20000 in
theorem gX5_copyFrom_X4_copyFrom : GoodIn wsX5_copyFrom (wsV RX5 59 RX4 yX4_copyFrom wsX4_copyFrom) := goodIn_app (goodIn_of _ (by decide +kernel)) ggX5_copyFrom_X4_copyFrom
set_option maxRecDepth 20000 in
theorem ggX5_copyFrom_X6_copyFrom : GoodIn wsX5_copyFrom wsX6_copyFrom := goodIn_r _ [37, 38, 39, 40, 41, 11, 12, 13, 14, 15, 16, 17, 18, 19, 20, 21, 66, 67, 68, 69] (by decide +kernel) (by decide +kernel)
set_option maxRecDepth 20000 in
theorem gX5_copyFrom_X6_copyFrom : GoodIn wsX5_copyFrom (wsV RX5 63 RX6 yX6_copyFrom wsX6_copyFrom) := goodIn_app (goodIn_of _ (by decide +kernel)) ggX5_copyFrom_X6_copyFrom
set_option maxRecDepth 20000 in
theorem ggX5_copyFrom_X1_copyFrom : GoodIn wsX5_copyFrom wsX1_copyFrom := goodIn_r _ [46, 47, 48, 11, 12, 13, 14, 15, 16, 17, 18, 19, 20, 21, 70, 71] (by decide +kernel) (by decide +kernel)
set_option maxRecDepth 20000 in
theorem gX5_copyFrom_X1_copyFrom : GoodIn wsX5_copyFrom (wsV RX5 66 RX1 yX1_copyFrom wsX1_copyFrom) := goodIn_app (goodIn_of _ (by decide +kernel)) ggX5_copyFrom_X1_copyFrom
set_option maxRecDepth 20000 in
theorem ggX5_putBlock_X4_add : GoodIn wsX5_putBlock wsX4_add := goodIn_r _ [7, 8, 9, 10, 11, 12, 13, 24, 25, 26, 27, 28, 29, 30] (by decide +kernel) (by decide +kernel)
set_option maxRecDepth 20000 in
theorem gX5_putBlock_X4_add : GoodIn wsX5_putBlock (wsV RX5 69 RX4 yX4_add wsX4_add) := goodIn_app (goodIn_of _ (by decide +kernel)) ggX5_putBlock_X4_add
set_option maxRecDepth 20000 in
theorem ggX5_reasonAgainst_X4_hasBlock : GoodIn wsX5_reasonAgainst wsX4_hasBlock := goodIn_r _ [9, 10, 11, 12, 8, 13, 14, 34, 35, 36, 37, 38, 39, 40] (by decide +kernel) (by decide +kernel)
set_option maxRecDepth 20000 in
theorem gX5_reasonAgainst_X4_hasBlock : GoodIn wsX5_reasonAgainst (wsV RX5 73 RX4 yX4_hasBlock wsX4_hasBlock) := goodIn_app (goodIn_of _ (by decide +kernel)) ggX5_reasonAgainst_X4_hasBlock
set_option maxRecDepth 20000 in
theorem ggX5_reasonAgainst_X9_placeOf : GoodIn wsX5_reasonAgainst wsX9_placeOf := goodIn_r _ [17] (by decide +kernel) (by decide +kernel)
set_option maxRecDepth 20000 in
theorem gX5_reasonAgainst_X9_placeOf_n80 : GoodIn wsX5_reasonAgainst (wsX9_placeOf) := ggX5_reasonAgainst_X9_placeOf
set_option maxRecDepth 20000 in
theorem ggX5_reasonAgainst_X6_minutesToCarve : GoodIn wsX5_reasonAgainst wsX6_minutesToCarve := goodIn_r _ [22, 23, 41, 42, 43, 44] (by decide +kernel) (by decide +kernel)
set_option maxRecDepth 20000 in
theorem gX5_reasonAgainst_X6_minutesToCarve : GoodIn wsX5_reasonAgainst (wsV RX5 87 RX6 yX6_minutesToCarve wsX6_minutesToCarve) := goodIn_app (goodIn_of _ (by decide +kernel)) ggX5_reasonAgainst_X6_minutesToCarve
set_option maxRecDepth 20000 in
theorem ggX5_cutOff_X6_minutesToCarve : GoodIn wsX5_cutOff wsX6_minutesToCarve := goodIn_r _ [8, 9, 42, 43, 44, 45] (by decide +kernel) (by decide +kernel)
set_option maxRecDepth 20000 in
theorem gX5_cutOff_X6_minutesToCarve : GoodIn wsX5_cutOff (wsV RX5 87 RX6 yX6_minutesToCarve wsX6_minutesToCarve) := goodIn_app (goodIn_of _ (by decide +kernel)) ggX5_cutOff_X6_minutesToCarve
set_option maxRecDepth 20000 in
theorem ggX5_cutOff_X6_use : GoodIn wsX5_cutOff wsX6_use := goodIn_r _ [13, 14, 15, 42, 43, 44, 45] (by decide +kernel) (by decide +kernel)
set_option maxRecDepth 20000 in
theorem gX5_cutOff_X6_use : GoodIn wsX5_cutOff (wsV RX5 90 RX6 yX6_use wsX6_use) := goodIn_app (goodIn_of _ (by decide +kernel)) ggX5_cutOff_X6_use
set_option maxRecDepth 20000 in
theorem ggX5_cutOff_X4_cut : GoodIn wsX5_cutOff wsX4_cut := goodIn_r _ [20, 21, 22, 23, 24, 25, 26, 27, 28, 19, 29, 30, 31, 46, 47, 48, 49, 50, 51, 52] (by decide +kernel) (by decide +kernel)
set_option maxRecDepth 20000 in
theorem gX5_cutOff_X4_cut : GoodIn wsX5_cutOff (wsV RX5 93 RX4 yX4_cut wsX4_cut) := goodIn_app (goodIn_of _ (by decide +kernel)) ggX5_cutOff_X4_cut
set_option maxRecDepth 20000 in
theorem ggX5_passHours_X4_melt : GoodIn wsX5_passHours wsX4_melt := goodIn_r _ [9, 10, 11, 12, 13, 14, 15, 16, 17, 18, 19, 20, 21, 22, 8, 23, 24, 25, 26, 27, 28, 29, 30, 31, 32, 33, 34, 35, 36, 37, 38, 39, 40, 41, 59, 60, 61, 62, 63, 64, 65] (by decide +kernel) (by decide +kernel)
set_option maxRecDepth 20000 in
theorem gX5_passHours_X4_melt : GoodIn wsX5_passHours (wsV RX5 102 RX4 yX4_melt wsX4_melt) := goodIn_app (goodIn_of _ (by decide +kernel)) ggX5_passHours_X4_melt
set_option maxRecDepth 20000 in
theorem ggX5_passHours_X6_restoreMinutes : GoodIn wsX5_passHours wsX6_restoreMinutes := goodIn_r _ [46, 47, 48, 66, 67, 68, 69] (by decide +kernel) (by decide +kernel)
set_option maxRecDepth 20000 in
theorem gX5_passHours_X6_restoreMinutes : GoodIn wsX5_passHours (wsV RX5 106 RX6 yX6_restoreMinutes wsX6_restoreMinutes) := goodIn_app (goodIn_of _ (by decide +kernel)) ggX5_passHours_X6_restoreMinutes
set_option maxRecDepth 20000 in
theorem ggX6_copyFrom_X9_copyRow : GoodIn wsX6_copyFrom wsX9_copyRow := goodIn_r _ [7, 8, 9, 10, 11, 12, 13, 14, 15] (by decide +kernel) (by decide +kernel)
set_option maxRecDepth 20000 in
theorem gX6_copyFrom_X9_copyRow_n25 : GoodIn wsX6_copyFrom (wsX9_copyRow) := ggX6_copyFrom_X9_copyRow
set_option maxRecDepth 20000 in
theorem ggX7_init_X5_init : GoodIn wsX7_init wsX5_init := goodIn_r _ [9, 10, 2, 3, 11, 12, 13, 14, 15, 16, 17, 18, 19, 20, 21, 22, 23, 24, 25, 26, 27, 28, 29, 30, 31, 32, 33, 34, 35, 36, 37, 38, 39, 40, 41, 42, 43, 44, 48, 49, 50, 51, 52, 53, 54, 55, 56, 57, 58, 59, 60, 61, 62, 63, 64, 65, 66, 67, 68, 69, 70] (by decide +kernel) (by decide +kernel)
set_option maxRecDepth 20000 in
theorem gX7_init_X5_init_n17 : GoodIn wsX7_init (wsX5_init) := ggX7_init_X5_init
set_option maxRecDepth 20000 in
theorem ggX7_push_X5_copyFrom : GoodIn wsX7_push wsX5_copyFrom := goodIn_r _ [12, 13, 14, 15, 16, 17, 18, 19, 20, 21, 22, 23, 24, 25, 26, 5, 6, 7, 27, 28, 29, 30, 31, 32, 33, 34, 35, 36, 37, 38, 39, 40, 41, 42, 43, 44, 45, 46, 47, 48, 49, 50, 51, 52, 53, 54, 55, 56, 57, 61, 62, 63, 64, 65, 66, 67, 68, 69, 70, 71, 72, 73, 74, 75, 76, 77, 78, 79, 80, 81, 82, 83] (by decide +kernel) (by decide +kernel)
set_option maxRecDepth 20000 in
theorem gX7_push_X5_copyFrom : GoodIn wsX7_push (wsV RX7 22 RX5 yX5_copyFrom wsX5_copyFrom) := goodIn_app (goodIn_of _ (by decide +kernel)) ggX7_push_X5_copyFrom
set_option maxRecDepth 20000 in
theorem ggX7_pop_X5_copyFrom : GoodIn wsX7_pop wsX5_copyFrom := goodIn_r _ [8, 9, 10, 11, 12, 13, 14, 15, 16, 17, 18, 19, 20, 21, 22, 23, 24, 25, 26, 27, 28, 29, 30, 31, 32, 33, 34, 35, 36, 37, 38, 39, 40, 41, 42, 43, 44, 45, 46, 47, 48, 49, 50, 51, 52, 53, 54, 55, 56, 60, 61, 62, 63, 64, 65, 66, 67, 68, 69, 70, 71, 72, 73, 74, 75, 76, 77, 78, 79, 80, 81, 82] (by decide +kernel) (by decide +kernel)
set_option maxRecDepth 20000 in
theorem gX7_pop_X5_copyFrom : GoodIn wsX7_pop (wsV RX7 22 RX5 yX5_copyFrom wsX5_copyFrom) := goodIn_app (goodIn_of _ (by decide +kernel)) ggX7_pop_X5_copyFrom
