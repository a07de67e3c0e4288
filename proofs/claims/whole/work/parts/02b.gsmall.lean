set_option maxRecDepth 20000 in
theorem ggX1_copyFrom_X9_copyRow : GoodIn wsX1_copyFrom wsX9_copyRow := goodIn_r _ [5, 6, 7, 8, 9, 10, 11, 12, 13] (by decide +kernel) (by decide +kernel)
set_option maxRecDepth 20000 in
theorem gX1_copyFrom_X9_copyRow_n19 : GoodIn wsX1_copyFrom (wsX9_copyRow) := ggX1_copyFrom_X9_copyRow
set_option maxRecDepth 20000 in
theorem ggX1_choiceAmong_X9_isSite : GoodIn wsX1_choiceAmong wsX9_isSite := goodIn_r _ [4, 5, 6, 3, 7] (by decide +kernel) (by decide +kernel)
set_option maxRecDepth 20000 in
theorem gX1_choiceAmong_X9_isSite_n23 : GoodIn wsX1_choiceAmong (wsX9_isSite) := ggX1_choiceAmong_X9_isSite
set_option maxRecDepth 20000 in
theorem ggX2_take_X4_hasBlock : GoodIn wsX2_take wsX4_hasBlock := goodIn_r _ [8, 9, 10, 11, 7, 12, 13, 62, 63, 64, 65, 66, 67, 68] (by decide +kernel) (by decide +kernel)
set_option maxRecDepth 20000 in
theorem gX2_take_X4_hasBlock : GoodIn wsX2_take (wsV RX2 26 RX4 yX4_hasBlock wsX4_hasBlock) := goodIn_app (goodIn_of _ (by decide +kernel)) ggX2_take_X4_hasBlock
set_option maxRecDepth 20000 in
theorem ggX2_take_X4_sculptures : GoodIn wsX2_take wsX4_sculptures := goodIn_r _ [17, 13, 62, 63, 64, 65, 66, 67, 68] (by decide +kernel) (by decide +kernel)
set_option maxRecDepth 20000 in
theorem gX2_take_X4_sculptures : GoodIn wsX2_take (wsV RX2 32 RX4 yX4_sculptures wsX4_sculptures) := goodIn_app (goodIn_of _ (by decide +kernel)) ggX2_take_X4_sculptures
set_option maxRecDepth 20000 in
theorem ggX2_take_X2_countVotes : GoodIn wsX2_take wsX2_countVotes := goodIn_r _ [22, 23, 24, 3, 25, 26, 27, 28, 29, 30, 31, 32, 33, 34, 35, 36, 37, 57, 58, 59, 60, 61, 69, 70] (by decide +kernel) (by decide +kernel)
set_option maxRecDepth 20000 in
theorem gX2_take_X2_countVotes : GoodIn wsX2_take (wsV RX2 36 RX2 yX2_countVotes wsX2_countVotes) := goodIn_app (goodIn_of _ (by decide +kernel)) ggX2_take_X2_countVotes
set_option maxRecDepth 20000 in
theorem ggX2_take_X2_winnerOf : GoodIn wsX2_take wsX2_winnerOf := goodIn_r _ [41, 3, 24, 23, 57, 58, 59, 60, 61] (by decide +kernel) (by decide +kernel)
set_option maxRecDepth 20000 in
theorem gX2_take_X2_winnerOf : GoodIn wsX2_take (wsV RX2 40 RX2 yX2_winnerOf wsX2_winnerOf) := goodIn_app (goodIn_of _ (by decide +kernel)) ggX2_take_X2_winnerOf
set_option maxRecDepth 20000 in
theorem ggX2_take_X2_dropWeakest : GoodIn wsX2_take wsX2_dropWeakest := goodIn_r _ [45, 3, 46, 47, 48, 21, 49, 24, 50, 51, 52, 7, 53, 13, 54, 55, 33, 56, 57, 58, 59, 60, 61, 62, 63, 64, 65, 66, 67, 68] (by decide +kernel) (by decide +kernel)
set_option maxRecDepth 20000 in
theorem gX2_take_X2_dropWeakest : GoodIn wsX2_take (wsV RX2 44 RX2 yX2_dropWeakest wsX2_dropWeakest) := goodIn_app (goodIn_of _ (by decide +kernel)) ggX2_take_X2_dropWeakest
set_option maxRecDepth 20000 in
theorem ggX2_countVotes_X1_choiceAmong : GoodIn wsX2_countVotes wsX1_choiceAmong := goodIn_r _ [9, 10, 11, 12, 13, 14, 15, 16, 22, 23] (by decide +kernel) (by decide +kernel)
set_option maxRecDepth 20000 in
theorem gX2_countVotes_X1_choiceAmong : GoodIn wsX2_countVotes (wsV RX2 56 RX1 yX1_choiceAmong wsX1_choiceAmong) := goodIn_app (goodIn_of _ (by decide +kernel)) ggX2_countVotes_X1_choiceAmong
set_option maxRecDepth 20000 in
theorem ggX2_dropWeakest_X2_isNotStronger : GoodIn wsX2_dropWeakest wsX2_isNotStronger := goodIn_r _ [6, 7, 8, 9, 10, 11, 12, 13, 14, 15, 16, 17, 18, 19, 20, 21, 22, 23, 24, 25, 26, 27, 28, 29] (by decide +kernel) (by decide +kernel)
set_option maxRecDepth 20000 in
theorem gX2_dropWeakest_X2_isNotStronger : GoodIn wsX2_dropWeakest (wsV RX2 60 RX2 yX2_isNotStronger wsX2_isNotStronger) := goodIn_app (goodIn_of _ (by decide +kernel)) ggX2_dropWeakest_X2_isNotStronger
set_option maxRecDepth 20000 in
theorem ggX2_isNotStronger_X4_volumeOf : GoodIn wsX2_isNotStronger wsX4_volumeOf := goodIn_r _ [6, 7, 8, 9, 10, 11, 17, 18, 19, 20, 21, 22, 23] (by decide +kernel) (by decide +kernel)
set_option maxRecDepth 20000 in
theorem gX2_isNotStronger_X4_volumeOf : GoodIn wsX2_isNotStronger (wsV RX2 64 RX4 yX4_volumeOf wsX4_volumeOf) := goodIn_app (goodIn_of _ (by decide +kernel)) ggX2_isNotStronger_X4_volumeOf
set_option maxRecDepth 20000 in
theorem ggX3_firstFault_X3_rewind : GoodIn wsX3_firstFault wsX3_rewind := goodIn_r _ [6, 7, 1, 99, 100, 101, 102, 103, 104] (by decide +kernel) (by decide +kernel)
set_option maxRecDepth 20000 in
theorem gX3_firstFault_X3_rewind : GoodIn wsX3_firstFault (wsV RX3 29 RX3 yX3_rewind wsX3_rewind) := goodIn_app (goodIn_of _ (by decide +kernel)) ggX3_firstFault_X3_rewind
set_option maxRecDepth 20000 in
theorem ggX3_firstFault_X3_readOrder : GoodIn wsX3_firstFault wsX3_readOrder := goodIn_r _ [11, 7, 12, 13, 1, 14, 15, 16, 17, 5, 18, 19, 20, 21, 22, 23, 24, 25, 26, 27, 28, 29, 30, 31, 32, 33, 34, 35, 36, 37, 38, 39, 40, 41, 42, 43, 44, 45, 46, 47, 48, 49, 50, 51, 52, 53, 54, 55, 56, 57, 58, 59, 60, 61, 62, 63, 64, 65, 66, 67, 68, 69, 70, 71, 72, 73, 74, 75, 76, 77, 78, 79, 80, 81, 82, 83, 84, 85, 86, 87, 88, 89, 90, 91, 92, 93, 94, 95, 96, 97, 98, 99, 100, 101, 102, 103, 104] (by decide +kernel) (by decide +kernel)
set_option maxRecDepth 20000 in
theorem gX3_firstFault_X3_readOrder : GoodIn wsX3_firstFault (wsV RX3 32 RX3 yX3_readOrder wsX3_readOrder) := goodIn_app (goodIn_of _ (by decide +kernel)) ggX3_firstFault_X3_readOrder
set_option maxRecDepth 20000 in
theorem ggX3_readOrder_X3_skipSpaces : GoodIn wsX3_readOrder wsX3_skipSpaces := goodIn_r _ [10, 1, 2, 11, 12, 13, 9, 14, 15, 91, 92, 93, 94, 95, 96] (by decide +kernel) (by decide +kernel)
set_option maxRecDepth 20000 in
theorem gX3_readOrder_X3_skipSpaces : GoodIn wsX3_readOrder (wsV RX3 36 RX3 yX3_skipSpaces wsX3_skipSpaces) := goodIn_app (goodIn_of _ (by decide +kernel)) ggX3_readOrder_X3_skipSpaces
set_option maxRecDepth 20000 in
theorem ggX3_readOrder_X3_skipLetters : GoodIn wsX3_readOrder wsX3_skipLetters := goodIn_r _ [19, 1, 2, 11, 12, 13, 9, 14, 15, 91, 92, 93, 94, 95, 96] (by decide +kernel) (by decide +kernel)
set_option maxRecDepth 20000 in
theorem gX3_readOrder_X3_skipLetters : GoodIn wsX3_readOrder (wsV RX3 39 RX3 yX3_skipLetters wsX3_skipLetters) := goodIn_app (goodIn_of _ (by decide +kernel)) ggX3_readOrder_X3_skipLetters
set_option maxRecDepth 20000 in
theorem ggX3_readOrder_X3_wordBetween : GoodIn wsX3_readOrder wsX3_wordBetween := goodIn_r _ [23, 24, 25, 26, 27, 9, 28, 15, 29, 30, 31, 32, 33, 34, 35, 36, 37, 38, 39, 40, 41, 42, 43, 44, 45, 46, 47, 48, 49, 50, 51, 52, 53, 54, 55, 56, 57, 58, 59, 60, 61, 62, 63, 64, 65, 66, 67, 68, 69, 70, 71, 72, 73, 74, 75, 76, 77, 91, 92, 93, 94, 95, 96] (by decide +kernel) (by decide +kernel)
set_option maxRecDepth 20000 in
theorem gX3_readOrder_X3_wordBetween : GoodIn wsX3_readOrder (wsV RX3 42 RX3 yX3_wordBetween wsX3_wordBetween) := goodIn_app (goodIn_of _ (by decide +kernel)) ggX3_readOrder_X3_wordBetween
set_option maxRecDepth 20000 in
theorem ggX3_readOrder_X3_readNumber : GoodIn wsX3_readOrder wsX3_readNumber := goodIn_r _ [81, 1, 4, 15, 82, 6, 7, 8, 9, 10, 2, 11, 12, 13, 14, 83, 84, 85, 86, 91, 92, 93, 94, 95, 96] (by decide +kernel) (by decide +kernel)
set_option maxRecDepth 20000 in
theorem gX3_readOrder_X3_readNumber : GoodIn wsX3_readOrder (wsV RX3 55 RX3 yX3_readNumber wsX3_readNumber) := goodIn_app (goodIn_of _ (by decide +kernel)) ggX3_readOrder_X3_readNumber
set_option maxRecDepth 20000 in
theorem ggX3_readOrder_X3_readSemicolon : GoodIn wsX3_readOrder wsX3_readSemicolon := goodIn_r _ [90, 1, 4, 6, 7, 8, 9, 10, 2, 11, 12, 13, 14, 15, 91, 92, 93, 94, 95, 96] (by decide +kernel) (by decide +kernel)
set_option maxRecDepth 20000 in
theorem gX3_readOrder_X3_readSemicolon : GoodIn wsX3_readOrder (wsV RX3 59 RX3 yX3_readSemicolon wsX3_readSemicolon) := goodIn_app (goodIn_of _ (by decide +kernel)) ggX3_readOrder_X3_readSemicolon
set_option maxRecDepth 20000 in
theorem ggX3_readNumber_X3_skipSpaces : GoodIn wsX3_readNumber wsX3_skipSpaces := goodIn_r _ [9, 1, 10, 11, 12, 13, 8, 14, 3, 19, 20, 21, 22, 23, 24] (by decide +kernel) (by decide +kernel)
set_option maxRecDepth 20000 in
theorem gX3_readNumber_X3_skipSpaces : GoodIn wsX3_readNumber (wsV RX3 36 RX3 yX3_skipSpaces wsX3_skipSpaces) := goodIn_app (goodIn_of _ (by decide +kernel)) ggX3_readNumber_X3_skipSpaces
set_option maxRecDepth 20000 in
theorem ggX3_readNumber_X3_isDigitNext : GoodIn wsX3_readNumber wsX3_isDigitNext := goodIn_r _ [18, 11, 12, 13, 8, 14, 1, 10, 3, 19, 20, 21, 22, 23, 24] (by decide +kernel) (by decide +kernel)
set_option maxRecDepth 20000 in
theorem gX3_readNumber_X3_isDigitNext : GoodIn wsX3_readNumber (wsV RX3 62 RX3 yX3_isDigitNext wsX3_isDigitNext) := goodIn_app (goodIn_of _ (by decide +kernel)) ggX3_readNumber_X3_isDigitNext
set_option maxRecDepth 20000 in
theorem ggX3_readSemicolon_X3_skipSpaces : GoodIn wsX3_readSemicolon wsX3_skipSpaces := goodIn_r _ [7, 1, 8, 9, 10, 11, 6, 12, 13, 14, 15, 16, 17, 18, 19] (by decide +kernel) (by decide +kernel)
set_option maxRecDepth 20000 in
theorem gX3_readSemicolon_X3_skipSpaces : GoodIn wsX3_readSemicolon (wsV RX3 36 RX3 yX3_skipSpaces wsX3_skipSpaces) := goodIn_app (goodIn_of _ (by decide +kernel)) ggX3_readSemicolon_X3_skipSpaces
set_option maxRecDepth 20000 in
theorem ggX3_readSemicolon_X3_isNextWithin : GoodIn wsX3_readSemicolon wsX3_isNextWithin := goodIn_r _ [12, 1, 8, 13, 14, 15, 16, 17, 18, 19] (by decide +kernel) (by decide +kernel)
set_option maxRecDepth 20000 in
theorem gX3_readSemicolon_X3_isNextWithin : GoodIn wsX3_readSemicolon (wsV RX3 65 RX3 yX3_isNextWithin wsX3_isNextWithin) := goodIn_app (goodIn_of _ (by decide +kernel)) ggX3_readSemicolon_X3_isNextWithin
set_option maxRecDepth 20000 in
theorem ggX3_skipSpaces_X3_isNextWithin : GoodIn wsX3_skipSpaces wsX3_isNextWithin := goodIn_r _ [7, 1, 2, 8, 9, 10, 11, 12, 13, 14] (by decide +kernel) (by decide +kernel)
set_option maxRecDepth 20000 in
theorem gX3_skipSpaces_X3_isNextWithin : GoodIn wsX3_skipSpaces (wsV RX3 65 RX3 yX3_isNextWithin wsX3_isNextWithin) := goodIn_app (goodIn_of _ (by decide +kernel)) ggX3_skipSpaces_X3_isNextWithin
set_option maxRecDepth 20000 in
theorem ggX3_skipLetters_X3_isNextWithin : GoodIn wsX3_skipLetters wsX3_isNextWithin := goodIn_r _ [7, 1, 2, 8, 9, 10, 11, 12, 13, 14] (by decide +kernel) (by decide +kernel)
set_option maxRecDepth 20000 in
theorem gX3_skipLetters_X3_isNextWithin : GoodIn wsX3_skipLetters (wsV RX3 65 RX3 yX3_isNextWithin wsX3_isNextWithin) := goodIn_app (goodIn_of _ (by decide +kernel)) ggX3_skipLetters_X3_isNextWithin
set_option maxRecDepth 20000 in
theorem ggX3_isDigitNext_X3_isNextWithin : GoodIn wsX3_isDigitNext wsX3_isNextWithin := goodIn_r _ [5, 6, 7, 8, 9, 10, 11, 12, 13, 14] (by decide +kernel) (by decide +kernel)
set_option maxRecDepth 20000 in
theorem gX3_isDigitNext_X3_isNextWithin : GoodIn wsX3_isDigitNext (wsV RX3 65 RX3 yX3_isNextWithin wsX3_isNextWithin) := goodIn_app (goodIn_of _ (by decide +kernel)) ggX3_isDigitNext_X3_isNextWithin
set_option maxRecDepth 20000 in
theorem ggX3_wordBetween_X3_isSpelled : GoodIn wsX3_wordBetween wsX3_isSpelled := goodIn_r _ [6, 7, 8, 9, 10, 11, 12, 13, 14, 15, 16, 17, 18, 19, 20, 21, 22, 23, 24, 25, 26, 27, 28, 29, 30, 31, 32, 33, 34, 35, 36, 37, 38, 39, 40, 41, 42, 43, 44, 45, 46, 47, 48, 49, 50, 51, 52, 53, 54, 55, 56, 57, 58, 59, 60, 61, 62] (by decide +kernel) (by decide +kernel)
set_option maxRecDepth 20000 in
theorem gX3_wordBetween_X3_isSpelled : GoodIn wsX3_wordBetween (wsV RX3 77 RX3 yX3_isSpelled wsX3_isSpelled) := goodIn_app (goodIn_of _ (by decide +kernel)) ggX3_wordBetween_X3_isSpelled
set_option maxRecDepth 20000 in
theorem ggX3_isSpelled_J0_length_8abf5 : GoodIn wsX3_isSpelled wsJ0_length_8abf5 := goodIn_r _ [6, 7, 8, 9, 10, 5, 11, 12, 13] (by decide +kernel) (by decide +kernel)
set_option maxRecDepth 20000 in
theorem gX3_isSpelled_J0_length_8abf5 : GoodIn wsX3_isSpelled (wsV RX3 81 RJ0 yJ0_length_8abf5 wsJ0_length_8abf5) := goodIn_app (goodIn_of _ (by decide +kernel)) ggX3_isSpelled_J0_length_8abf5
set_option maxRecDepth 20000 in
theorem ggX3_isSpelled_J0_charAt_5068e : GoodIn wsX3_isSpelled wsJ0_charAt_5068e := goodIn_r _ [17, 7, 18, 19, 20, 5, 21, 12, 13, 22, 23, 24, 25, 26, 27, 28, 29, 30, 31, 32, 33, 34, 35, 36, 37, 38, 39, 40, 41, 42, 43, 44, 45, 46, 47, 48, 49, 50] (by decide +kernel) (by decide +kernel)
set_option maxRecDepth 20000 in
theorem gX3_isSpelled_J0_charAt_5068e : GoodIn wsX3_isSpelled (wsV RX3 86 RJ0 yJ0_charAt_5068e wsJ0_charAt_5068e) := goodIn_app (goodIn_of _ (by decide +kernel)) ggX3_isSpelled_J0_charAt_5068e
set_option maxRecDepth 20000 in
theorem ggX4_copyFrom_X9_copyRow : GoodIn wsX4_copyFrom wsX9_copyRow := goodIn_r _ [9, 10, 11, 12, 13, 14, 15, 16, 17] (by decide +kernel) (by decide +kernel)
set_option maxRecDepth 20000 in
theorem gX4_copyFrom_X9_copyRow_n33 : GoodIn wsX4_copyFrom (wsX9_copyRow) := ggX4_copyFrom_X9_copyRow
set_option maxRecDepth 20000 in
theorem ggX4_hasBlock_X4_heightAt : GoodIn wsX4_hasBlock wsX4_heightAt := goodIn_r _ [5, 6, 7, 8, 9, 10, 11, 12, 13] (by decide +kernel) (by decide +kernel)
set_option maxRecDepth 20000 in
theorem gX4_hasBlock_X4_heightAt : GoodIn wsX4_hasBlock (wsV RX4 37 RX4 yX4_heightAt wsX4_heightAt) := goodIn_app (goodIn_of _ (by decide +kernel)) ggX4_hasBlock_X4_heightAt
set_option maxRecDepth 20000 in
theorem ggX4_add_X9_placeOf : GoodIn wsX4_add wsX9_placeOf := goodIn_r _ [6] (by decide +kernel) (by decide +kernel)
set_option maxRecDepth 20000 in
theorem gX4_add_X9_placeOf_n41 : GoodIn wsX4_add (wsX9_placeOf) := ggX4_add_X9_placeOf
set_option maxRecDepth 20000 in
theorem ggX4_cut_X9_placeOf : GoodIn wsX4_cut wsX9_placeOf := goodIn_r _ [5] (by decide +kernel) (by decide +kernel)
set_option maxRecDepth 20000 in
theorem gX4_cut_X9_placeOf_n41 : GoodIn wsX4_cut (wsX9_placeOf) := ggX4_cut_X9_placeOf
set_option maxRecDepth 20000 in
theorem ggX4_cut_X4_dropGone : GoodIn wsX4_cut wsX4_dropGone := goodIn_r _ [10, 11, 1, 12, 3, 4, 5, 13, 14, 15, 16, 17, 18, 19] (by decide +kernel) (by decide +kernel)
set_option maxRecDepth 20000 in
theorem gX4_cut_X4_dropGone : GoodIn wsX4_cut (wsV RX4 45 RX4 yX4_dropGone wsX4_dropGone) := goodIn_app (goodIn_of _ (by decide +kernel)) ggX4_cut_X4_dropGone
set_option maxRecDepth 20000 in
theorem ggX4_melt_X9_placeOf : GoodIn wsX4_melt wsX9_placeOf := goodIn_r _ [11] (by decide +kernel) (by decide +kernel)
set_option maxRecDepth 20000 in
theorem gX4_melt_X9_placeOf_n41 : GoodIn wsX4_melt (wsX9_placeOf) := ggX4_melt_X9_placeOf
set_option maxRecDepth 20000 in
theorem ggX4_melt_X4_rateOf : GoodIn wsX4_melt wsX4_rateOf := goodIn_r _ [15] (by decide +kernel) (by decide +kernel)
set_option maxRecDepth 20000 in
theorem gX4_melt_X4_rateOf : GoodIn wsX4_melt (va_wsS RX4 49 yX4_rateOf wsX4_rateOf) := goodIn_app (goodIn_of _ (by decide +kernel)) ggX4_melt_X4_rateOf
set_option maxRecDepth 20000 in
theorem ggX4_melt_X4_facesInSun : GoodIn wsX4_melt wsX4_facesInSun := goodIn_r _ [19, 20, 1, 21, 22, 23, 14, 24, 34, 35, 36, 37, 38, 39, 40] (by decide +kernel) (by decide +kernel)
set_option maxRecDepth 20000 in
theorem gX4_melt_X4_facesInSun : GoodIn wsX4_melt (wsV RX4 52 RX4 yX4_facesInSun wsX4_facesInSun) := goodIn_app (goodIn_of _ (by decide +kernel)) ggX4_melt_X4_facesInSun
set_option maxRecDepth 20000 in
theorem ggX4_melt_X4_takeLosses : GoodIn wsX4_melt wsX4_takeLosses := goodIn_r _ [28, 1, 4, 3, 29, 9, 10, 11, 30, 31, 32, 14, 33, 2, 34, 35, 36, 37, 38, 39, 40] (by decide +kernel) (by decide +kernel)
set_option maxRecDepth 20000 in
theorem gX4_melt_X4_takeLosses : GoodIn wsX4_melt (wsV RX4 61 RX4 yX4_takeLosses wsX4_takeLosses) := goodIn_app (goodIn_of _ (by decide +kernel)) ggX4_melt_X4_takeLosses
set_option maxRecDepth 20000 in
theorem ggX4_takeLosses_X9_placeOf : GoodIn wsX4_takeLosses wsX9_placeOf := goodIn_r _ [7] (by decide +kernel) (by decide +kernel)
set_option maxRecDepth 20000 in
theorem gX4_takeLosses_X9_placeOf_n41 : GoodIn wsX4_takeLosses (wsX9_placeOf) := ggX4_takeLosses_X9_placeOf
set_option maxRecDepth 20000 in
theorem ggX4_takeLosses_X4_dropGone : GoodIn wsX4_takeLosses wsX4_dropGone := goodIn_r _ [12, 1, 2, 13, 5, 6, 7, 14, 15, 16, 17, 18, 19, 20] (by decide +kernel) (by decide +kernel)
set_option maxRecDepth 20000 in
theorem gX4_takeLosses_X4_dropGone : GoodIn wsX4_takeLosses (wsV RX4 45 RX4 yX4_dropGone wsX4_dropGone) := goodIn_app (goodIn_of _ (by decide +kernel)) ggX4_takeLosses_X4_dropGone
set_option maxRecDepth 20000 in
theorem ggX4_dropGone_X9_placeOf : GoodIn wsX4_dropGone wsX9_placeOf := goodIn_r _ [6] (by decide +kernel) (by decide +kernel)
set_option maxRecDepth 20000 in
theorem gX4_dropGone_X9_placeOf_n41 : GoodIn wsX4_dropGone (wsX9_placeOf) := ggX4_dropGone_X9_placeOf
set_option maxRecDepth 20000 in
theorem ggX4_facesInSun_X4_heightAt : GoodIn wsX4_facesInSun wsX4_heightAt := goodIn_r _ [7, 2, 8, 9, 10, 11, 12, 13, 14] (by decide +kernel) (by decide +kernel)
set_option maxRecDepth 20000 in
theorem gX4_facesInSun_X4_heightAt : GoodIn wsX4_facesInSun (wsV RX4 37 RX4 yX4_heightAt wsX4_heightAt) := goodIn_app (goodIn_of _ (by decide +kernel)) ggX4_facesInSun_X4_heightAt
set_option maxRecDepth 20000 in
theorem ggX4_volumeOf_X9_placeOf : GoodIn wsX4_volumeOf wsX9_placeOf := goodIn_r _ [5] (by decide +kernel) (by decide +kernel)
set_option maxRecDepth 20000 in
theorem gX4_volumeOf_X9_placeOf_n41 : GoodIn wsX4_volumeOf (wsX9_placeOf) := ggX4_volumeOf_X9_placeOf
set_option maxRecDepth 20000 in
theorem ggX4_volumeOfAll_X4_volumeOf : GoodIn wsX4_volumeOfAll wsX4_volumeOf := goodIn_r _ [5, 6, 7, 8, 9, 10, 11, 12, 13, 14, 15, 16, 17] (by decide +kernel) (by decide +kernel)
set_option maxRecDepth 20000 in
theorem gX4_volumeOfAll_X4_volumeOf : GoodIn wsX4_volumeOfAll (wsV RX4 64 RX4 yX4_volumeOf wsX4_volumeOf) := goodIn_app (goodIn_of _ (by decide +kernel)) ggX4_volumeOfAll_X4_volumeOf
set_option maxRecDepth 20000 in
theorem ggX5_init_X4_init : GoodIn wsX5_init wsX4_init := goodIn_r _ [19, 20, 2, 3, 4, 21, 22, 23, 24, 25, 26, 27, 48, 49, 50, 51, 52, 53, 54] (by decide +kernel) (by decide +kernel)
set_option maxRecDepth 20000 in
theorem gX5_init_X4_init_n17 : GoodIn wsX5_init (wsX4_init) := ggX5_init_X4_init
set_option maxRecDepth 20000 in
theorem ggX5_init_X6_init : GoodIn wsX5_init wsX6_init := goodIn_r _ [29, 30, 2, 3, 4, 31, 32, 33, 55, 56, 57, 58] (by decide +kernel) (by decide +kernel)
set_option maxRecDepth 20000 in
theorem gX5_init_X6_init_n24 : GoodIn wsX5_init (wsX6_init) := ggX5_init_X6_init
set_option maxRecDepth 20000 in
theorem ggX5_init_X1_init : GoodIn wsX5_init wsX1_init := goodIn_r _ [35, 36, 2, 3, 4, 37, 59, 60] (by decide +kernel) (by decide +kernel)
set_option maxRecDepth 20000 in
theorem gX5_init_X1_init_n31 : GoodIn wsX5_init (wsX1_init) := ggX5_init_X1_init
set_option maxRecDepth 20000 in
theorem ggX5_copyFrom_X9_copyRow : GoodIn wsX5_copyFrom wsX9_copyRow := goodIn_r _ [13, 14, 15, 16, 17, 18, 19, 20, 21] (by decide +kernel) (by decide +kernel)
set_option maxRecDepth 20000 in
theorem gX5_copyFrom_X9_copyRow_n55 : GoodIn wsX5_copyFrom (wsX9_copyRow) := ggX5_copyFrom_X9_copyRow
set_option maxRecDepth 20000 in
theorem ggX5_copyFrom_X4_copyFrom : GoodIn wsX5_copyFrom wsX4_copyFrom := goodIn_r _ [26, 27, 28, 29, 30, 31, 32, 11, 12, 13, 14, 15, 16, 17, 18, 19, 20, 21, 59, 60, 61, 62, 63, 64, 65] (by decide +kernel) (by decide +kernel)
set_option maxRecDepth 20000 in
theorem gX5_copyFrom_X4_copyFrom : GoodIn wsX5_copyFrom (wsV RX5 59 RX4 yX4_copyFrom wsX4_copyFrom) := goodIn_app (goodIn_of _ (by decide +kernel)) ggX5_copyFrom_X4_copyFrom
set_option maxRecDepth 20000 in
theorem ggX5_copyFrom_X6_copyFrom : GoodIn wsX5_copyFrom wsX6_copyFrom := goodIn_r _ [37, 38, 39, 40, 41, 11, 12, 13, 14, 15, 16, 17, 18, 19, 20, 21, 66, 67, 68, 69] (by decide +kernel) (by decide +kernel)
set_option maxRecDepth 20000 in
theorem gX5_copyFrom_X6_copyFrom : GoodIn wsX5_copyFrom (wsV RX5 63 RX6 yX6_copyFrom wsX6_copyFrom) := goodIn_app (goodIn_of _ (by decide +kernel)) ggX5_copyFrom_X6_copyFrom
set_option maxRecDepth 20000 in
theorem ggX5_copyFrom_X1_copyFrom : GoodIn wsX5_copyFrom wsX1_copyFrom := goodIn_r _ [46, 47, 48, 11, 12, 13, 14, 15, 16, 17, 18, 19, 20, 21, 70, 71] (by decide +kernel) (by decide +kernel)
set_option maxRecDepth 20000 in
theorem gX5_copyFrom_X1_copyFrom : GoodIn wsX5_copyFrom (wsV RX5 66 RX1 yX1_copyFrom wsX1_copyFrom) := goodIn_app (goodIn_of _ (by decide +kernel)) ggX5_copyFrom_X1_copyFrom
set_option maxRecDepth 20000 in
theorem ggX5_putBlock_X4_add : GoodIn wsX5_putBlock wsX4_add := goodIn_r _ [7, 8, 9, 10, 11, 12, 13, 24, 25, 26, 27, 28, 29, 30] (by decide +kernel) (by decide +kernel)
set_option maxRecDepth 20000 in
theorem gX5_putBlock_X4_add : GoodIn wsX5_putBlock (wsV RX5 69 RX4 yX4_add wsX4_add) := goodIn_app (goodIn_of _ (by decide +kernel)) ggX5_putBlock_X4_add
set_option maxRecDepth 20000 in
theorem ggX5_reasonAgainst_X4_hasBlock : GoodIn wsX5_reasonAgainst wsX4_hasBlock := goodIn_r _ [9, 10, 11, 12, 8, 13, 14, 34, 35, 36, 37, 38, 39, 40] (by decide +kernel) (by decide +kernel)
set_option maxRecDepth 20000 in
theorem gX5_reasonAgainst_X4_hasBlock : GoodIn wsX5_reasonAgainst (wsV RX5 73 RX4 yX4_hasBlock wsX4_hasBlock) := goodIn_app (goodIn_of _ (by decide +kernel)) ggX5_reasonAgainst_X4_hasBlock
set_option maxRecDepth 20000 in
theorem ggX5_reasonAgainst_X9_placeOf : GoodIn wsX5_reasonAgainst wsX9_placeOf := goodIn_r _ [17] (by decide +kernel) (by decide +kernel)
set_option maxRecDepth 20000 in
theorem gX5_reasonAgainst_X9_placeOf_n80 : GoodIn wsX5_reasonAgainst (wsX9_placeOf) := ggX5_reasonAgainst_X9_placeOf
set_option maxRecDepth 20000 in
theorem ggX5_reasonAgainst_X6_minutesToCarve : GoodIn wsX5_reasonAgainst wsX6_minutesToCarve := goodIn_r _ [22, 23, 41, 42, 43, 44] (by decide +kernel) (by decide +kernel)
set_option maxRecDepth 20000 in
theorem gX5_reasonAgainst_X6_minutesToCarve : GoodIn wsX5_reasonAgainst (wsV RX5 87 RX6 yX6_minutesToCarve wsX6_minutesToCarve) := goodIn_app (goodIn_of _ (by decide +kernel)) ggX5_reasonAgainst_X6_minutesToCarve
set_option maxRecDepth 20000 in
theorem ggX5_cutOff_X6_minutesToCarve : GoodIn wsX5_cutOff wsX6_minutesToCarve := goodIn_r _ [8, 9, 42, 43, 44, 45] (by decide +kernel) (by decide +kernel)
set_option maxRecDepth 20000 in
theorem gX5_cutOff_X6_minutesToCarve : GoodIn wsX5_cutOff (wsV RX5 87 RX6 yX6_minutesToCarve wsX6_minutesToCarve) := goodIn_app (goodIn_of _ (by decide +kernel)) ggX5_cutOff_X6_minutesToCarve
set_option maxRecDepth 20000 in
theorem ggX5_cutOff_X6_use : GoodIn wsX5_cutOff wsX6_use := goodIn_r _ [13, 14, 15, 42, 43, 44, 45] (by decide +kernel) (by decide +kernel)
set_option maxRecDepth 20000 in
theorem gX5_cutOff_X6_use : GoodIn wsX5_cutOff (wsV RX5 90 RX6 yX6_use wsX6_use) := goodIn_app (goodIn_of _ (by decide +kernel)) ggX5_cutOff_X6_use
set_option maxRecDepth 20000 in
theorem ggX5_cutOff_X4_cut : GoodIn wsX5_cutOff wsX4_cut := goodIn_r _ [20, 21, 22, 23, 24, 25, 26, 27, 28, 19, 29, 30, 31, 46, 47, 48, 49, 50, 51, 52] (by decide +kernel) (by decide +kernel)
set_option maxRecDepth 20000 in
theorem gX5_cutOff_X4_cut : GoodIn wsX5_cutOff (wsV RX5 93 RX4 yX4_cut wsX4_cut) := goodIn_app (goodIn_of _ (by decide +kernel)) ggX5_cutOff_X4_cut
set_option maxRecDepth 20000 in
theorem ggX5_passHours_X4_melt : GoodIn wsX5_passHours wsX4_melt := goodIn_r _ [9, 10, 11, 12, 13, 14, 15, 16, 17, 18, 19, 20, 21, 22, 8, 23, 24, 25, 26, 27, 28, 29, 30, 31, 32, 33, 34, 35, 36, 37, 38, 39, 40, 41, 59, 60, 61, 62, 63, 64, 65] (by decide +kernel) (by decide +kernel)
set_option maxRecDepth 20000 in
theorem gX5_passHours_X4_melt : GoodIn wsX5_passHours (wsV RX5 102 RX4 yX4_melt wsX4_melt) := goodIn_app (goodIn_of _ (by decide +kernel)) ggX5_passHours_X4_melt
set_option maxRecDepth 20000 in
theorem ggX5_passHours_X6_restoreMinutes : GoodIn wsX5_passHours wsX6_restoreMinutes := goodIn_r _ [46, 47, 48, 66, 67, 68, 69] (by decide +kernel) (by decide +kernel)
set_option maxRecDepth 20000 in
theorem gX5_passHours_X6_restoreMinutes : GoodIn wsX5_passHours (wsV RX5 106 RX6 yX6_restoreMinutes wsX6_restoreMinutes) := goodIn_app (goodIn_of _ (by decide +kernel)) ggX5_passHours_X6_restoreMinutes
set_option maxRecDepth 20000 in
theorem ggX6_copyFrom_X9_copyRow : GoodIn wsX6_copyFrom wsX9_copyRow := goodIn_r _ [7, 8, 9, 10, 11, 12, 13, 14, 15] (by decide +kernel) (by decide +kernel)
set_option maxRecDepth 20000 in
theorem gX6_copyFrom_X9_copyRow_n25 : GoodIn wsX6_copyFrom (wsX9_copyRow) := ggX6_copyFrom_X9_copyRow
set_option maxRecDepth 20000 in
theorem ggX7_init_X5_init : GoodIn wsX7_init wsX5_init := goodIn_r _ [9, 10, 2, 3, 11, 12, 13, 14, 15, 16, 17, 18, 19, 20, 21, 22, 23, 24, 25, 26, 27, 28, 29, 30, 31, 32, 33, 34, 35, 36, 37, 38, 39, 40, 41, 42, 43, 44, 48, 49, 50, 51, 52, 53, 54, 55, 56, 57, 58, 59, 60, 61, 62, 63, 64, 65, 66, 67, 68, 69, 70] (by decide +kernel) (by decide +kernel)
set_option maxRecDepth 20000 in
theorem gX7_init_X5_init_n17 : GoodIn wsX7_init (wsX5_init) := ggX7_init_X5_init
set_option maxRecDepth 20000 in
theorem ggX7_push_X5_copyFrom : GoodIn wsX7_push wsX5_copyFrom := goodIn_r _ [12, 13, 14, 15, 16, 17, 18, 19, 20, 21, 22, 23, 24, 25, 26, 5, 6, 7, 27, 28, 29, 30, 31, 32, 33, 34, 35, 36, 37, 38, 39, 40, 41, 42, 43, 44, 45, 46, 47, 48, 49, 50, 51, 52, 53, 54, 55, 56, 57, 61, 62, 63, 64, 65, 66, 67, 68, 69, 70, 71, 72, 73, 74, 75, 76, 77, 78, 79, 80, 81, 82, 83] (by decide +kernel) (by decide +kernel)
set_option maxRecDepth 20000 in
theorem gX7_push_X5_copyFrom : GoodIn wsX7_push (wsV RX7 22 RX5 yX5_copyFrom wsX5_copyFrom) := goodIn_app (goodIn_of _ (by decide +kernel)) ggX7_push_X5_copyFrom
set_option maxRecDepth 20000 in
theorem ggX7_pop_X5_copyFrom : GoodIn wsX7_pop wsX5_copyFrom := goodIn_r _ [8, 9, 10, 11, 12, 13, 14, 15, 16, 17, 18, 19, 20, 21, 22, 23, 24, 25, 26, 27, 28, 29, 30, 31, 32, 33, 34, 35, 36, 37, 38, 39, 40, 41, 42, 43, 44, 45, 46, 47, 48, 49, 50, 51, 52, 53, 54, 55, 56, 60, 61, 62, 63, 64, 65, 66, 67, 68, 69, 70, 71, 72, 73, 74, 75, 76, 77, 78, 79, 80, 81, 82] (by decide +kernel) (by decide +kernel)
set_option maxRecDepth 20000 in
theorem gX7_pop_X5_copyFrom : GoodIn wsX7_pop (wsV RX7 22 RX5 yX5_copyFrom wsX5_copyFrom) := goodIn_app (goodIn_of _ (by decide +kernel)) ggX7_pop_X5_copyFrom
set_option maxRecDepth 20000 in
theorem ggJ0_length_8abf5_J0_coder_7d493 : GoodIn wsJ0_length_8abf5 wsJ0_coder_7d493 := goodIn_r _ [6, 7, 8] (by decide +kernel) (by decide +kernel)
set_option maxRecDepth 20000 in
theorem gJ0_length_8abf5_J0_coder_7d493 : GoodIn wsJ0_length_8abf5 (wsV RJ0 335 RJ0 yJ0_coder_7d493 wsJ0_coder_7d493) := goodIn_app (goodIn_of _ (by decide +kernel)) ggJ0_length_8abf5_J0_coder_7d493
set_option maxRecDepth 20000 in
theorem ggJ0_charAt_5068e_J0_isLatin1_aae02 : GoodIn wsJ0_charAt_5068e wsJ0_isLatin1_aae02 := goodIn_r _ [6, 7, 8] (by decide +kernel) (by decide +kernel)
set_option maxRecDepth 20000 in
theorem gJ0_charAt_5068e_J0_isLatin1_aae02 : GoodIn wsJ0_charAt_5068e (wsV RJ0 492 RJ0 yJ0_isLatin1_aae02 wsJ0_isLatin1_aae02) := goodIn_app (goodIn_of _ (by decide +kernel)) ggJ0_charAt_5068e_J0_isLatin1_aae02
set_option maxRecDepth 20000 in
theorem ggJ0_charAt_5068e_J1_charAt_3b067 : GoodIn wsJ0_charAt_5068e wsJ1_charAt_3b067 := goodIn_r _ [12, 13, 14, 5, 15, 16, 17, 18, 19, 20] (by decide +kernel) (by decide +kernel)
set_option maxRecDepth 20000 in
theorem gJ0_charAt_5068e_J1_charAt_3b067 : GoodIn wsJ0_charAt_5068e (va_wsS RJ0 495 yJ1_charAt_3b067 wsJ1_charAt_3b067) := goodIn_app (goodIn_of _ (by decide +kernel)) ggJ0_charAt_5068e_J1_charAt_3b067
set_option maxRecDepth 20000 in
theorem ggJ0_charAt_5068e_J2_charAt_3b067 : GoodIn wsJ0_charAt_5068e wsJ2_charAt_3b067 := goodIn_r _ [24, 25, 26, 23, 27, 28, 29, 30, 31, 14, 5, 15, 16, 17, 18, 19, 20, 32, 33, 34, 35, 36, 37] (by decide +kernel) (by decide +kernel)
set_option maxRecDepth 20000 in
theorem gJ0_charAt_5068e_J2_charAt_3b067 : GoodIn wsJ0_charAt_5068e (va_wsS RJ0 498 yJ2_charAt_3b067 wsJ2_charAt_3b067) := goodIn_app (goodIn_of _ (by decide +kernel)) ggJ0_charAt_5068e_J2_charAt_3b067
set_option maxRecDepth 20000 in
theorem ggJ0_checkIndex_df160_J3_checkIndex_8e157 : GoodIn wsJ0_checkIndex_df160 wsJ3_checkIndex_8e157 := goodIn_r _ [5] (by decide +kernel) (by decide +kernel)
set_option maxRecDepth 20000 in
theorem gJ0_checkIndex_df160_J3_checkIndex_8e157 : GoodIn wsJ0_checkIndex_df160 (va_wsS RJ0 1059 yJ3_checkIndex_8e157 wsJ3_checkIndex_8e157) := goodIn_app (goodIn_of _ (by decide +kernel)) ggJ0_checkIndex_df160_J3_checkIndex_8e157
set_option maxRecDepth 20000 in
theorem ggJ1_charAt_3b067_J0_checkIndex_df160 : GoodIn wsJ1_charAt_3b067 wsJ0_checkIndex_df160 := goodIn_r _ [4, 5, 6, 7, 8, 9] (by decide +kernel) (by decide +kernel)
set_option maxRecDepth 20000 in
theorem gJ1_charAt_3b067_J0_checkIndex_df160 : GoodIn wsJ1_charAt_3b067 (va_wsS RJ1 9 yJ0_checkIndex_df160 wsJ0_checkIndex_df160) := goodIn_app (goodIn_of _ (by decide +kernel)) ggJ1_charAt_3b067_J0_checkIndex_df160
set_option maxRecDepth 20000 in
theorem ggJ2_getChar_3b067_J2_length_9d52b : GoodIn wsJ2_getChar_3b067 wsJ2_length_9d52b := goodIn_r _ [7] (by decide +kernel) (by decide +kernel)
set_option maxRecDepth 20000 in
theorem gJ2_getChar_3b067_J2_length_9d52b : GoodIn wsJ2_getChar_3b067 (va_wsS RJ2 48 yJ2_length_9d52b wsJ2_length_9d52b) := goodIn_app (goodIn_of _ (by decide +kernel)) ggJ2_getChar_3b067_J2_length_9d52b
set_option maxRecDepth 20000 in
theorem ggJ2_charAt_3b067_J2_checkIndex_2214a : GoodIn wsJ2_charAt_3b067 wsJ2_checkIndex_2214a := goodIn_r _ [4, 5, 6, 3, 7, 8, 9, 10, 11, 12, 13, 14, 15, 16] (by decide +kernel) (by decide +kernel)
set_option maxRecDepth 20000 in
theorem gJ2_charAt_3b067_J2_checkIndex_2214a : GoodIn wsJ2_charAt_3b067 (va_wsS RJ2 67 yJ2_checkIndex_2214a wsJ2_checkIndex_2214a) := goodIn_app (goodIn_of _ (by decide +kernel)) ggJ2_charAt_3b067_J2_checkIndex_2214a
set_option maxRecDepth 20000 in
theorem ggJ2_charAt_3b067_J2_getChar_3b067 : GoodIn wsJ2_charAt_3b067 wsJ2_getChar_3b067 := goodIn_r _ [19, 20, 21, 22, 5, 6, 3, 7] (by decide +kernel) (by decide +kernel)
set_option maxRecDepth 20000 in
theorem gJ2_charAt_3b067_J2_getChar_3b067 : GoodIn wsJ2_charAt_3b067 (va_wsS RJ2 71 yJ2_getChar_3b067 wsJ2_getChar_3b067) := goodIn_app (goodIn_of _ (by decide +kernel)) ggJ2_charAt_3b067_J2_getChar_3b067
set_option maxRecDepth 20000 in
theorem ggJ2_checkIndex_2214a_J2_length_9d52b : GoodIn wsJ2_checkIndex_2214a wsJ2_length_9d52b := goodIn_r _ [4] (by decide +kernel) (by decide +kernel)
set_option maxRecDepth 20000 in
theorem gJ2_checkIndex_2214a_J2_length_9d52b : GoodIn wsJ2_checkIndex_2214a (va_wsS RJ2 48 yJ2_length_9d52b wsJ2_length_9d52b) := goodIn_app (goodIn_of _ (by decide +kernel)) ggJ2_checkIndex_2214a_J2_length_9d52b
set_option maxRecDepth 20000 in
theorem ggJ2_checkIndex_2214a_J0_checkIndex_df160 : GoodIn wsJ2_checkIndex_2214a wsJ0_checkIndex_df160 := goodIn_r _ [8, 9, 10, 11, 12, 13] (by decide +kernel) (by decide +kernel)
set_option maxRecDepth 20000 in
theorem gJ2_checkIndex_2214a_J0_checkIndex_df160 : GoodIn wsJ2_checkIndex_2214a (va_wsS RJ2 414 yJ0_checkIndex_df160 wsJ0_checkIndex_df160) := goodIn_app (goodIn_of _ (by decide +kernel)) ggJ2_checkIndex_2214a_J0_checkIndex_df160
