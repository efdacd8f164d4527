set_option maxRecDepth 20000 in
theorem ggX0_init_X4_init : GoodIn wsX0_init wsX4_init := goodIn_r _ [18, 19, 2, 3, 20, 21, 22, 23, 31, 32] rfl (by decide +kernel)
set_option maxRecDepth 20000 in
theorem gX0_init_X4_init_n37 : GoodIn wsX0_init (wsX4_init) := ggX0_init_X4_init
set_option maxRecDepth 20000 in
theorem ggX0_readingOf_X0_productsOf : GoodIn wsX0_readingOf wsX0_productsOf := goodIn_r _ [6, 7, 8, 9, 10, 11, 12, 13, 14] rfl (by decide +kernel)
set_option maxRecDepth 20000 in
theorem gX0_readingOf_X0_productsOf : GoodIn wsX0_readingOf (wsV RX0 42 RX0 yX0_productsOf wsX0_productsOf) := goodIn_app (goodIn_r _ [2, 3, 4, 5] rfl (by decide +kernel)) ggX0_readingOf_X0_productsOf
set_option maxRecDepth 20000 in
theorem ggX0_goBack_X0_setLeft : GoodIn wsX0_goBack wsX0_setLeft := goodIn_r _ [11, 1, 12, 13, 69, 70, 71, 72, 73, 74, 75, 76, 77] rfl (by decide +kernel)
set_option maxRecDepth 20000 in
theorem gX0_goBack_X0_setLeft : GoodIn wsX0_goBack (wsV RX0 46 RX0 yX0_setLeft wsX0_setLeft) := goodIn_app (goodIn_r _ [7, 8, 9, 10] rfl (by decide +kernel)) ggX0_goBack_X0_setLeft
set_option maxRecDepth 20000 in
theorem ggX0_goBack_X4_determinant : GoodIn wsX0_goBack wsX4_determinant := goodIn_r _ [18, 19, 20, 21, 17, 22, 23, 24, 76, 77] rfl (by decide +kernel)
set_option maxRecDepth 20000 in
theorem gX0_goBack_X4_determinant : GoodIn wsX0_goBack (wsV RX0 49 RX4 yX4_determinant wsX4_determinant) := goodIn_app (goodIn_r _ [14, 15, 16, 17] rfl (by decide +kernel)) ggX0_goBack_X4_determinant
set_option maxRecDepth 20000 in
theorem ggX0_goBack_X9_setRow : GoodIn wsX0_goBack wsX9_setRow := goodIn_r _ [27] rfl (by decide +kernel)
set_option maxRecDepth 20000 in
theorem gX0_goBack_X9_setRow_n53 : GoodIn wsX0_goBack (wsX9_setRow) := ggX0_goBack_X9_setRow
set_option maxRecDepth 20000 in
theorem ggX0_goBack_X0_goRound : GoodIn wsX0_goBack wsX0_goRound := goodIn_r _ [31, 1, 32, 2, 3, 33, 34, 35, 10, 36, 37, 14, 15, 16, 17, 18, 19, 20, 21, 22, 23, 24, 38, 39, 40, 41, 42, 43, 44, 45, 46, 47, 48, 49, 50, 51, 52, 53, 54, 69, 70, 71, 72, 73, 74, 75, 76, 77] rfl (by decide +kernel)
set_option maxRecDepth 20000 in
theorem gX0_goBack_X0_goRound : GoodIn wsX0_goBack (wsV RX0 59 RX0 yX0_goRound wsX0_goRound) := goodIn_app (goodIn_r _ [28, 29, 30, 10] rfl (by decide +kernel)) ggX0_goBack_X0_goRound
set_option maxRecDepth 20000 in
theorem ggX0_goBack_X0_greatestDistance : GoodIn wsX0_goBack wsX0_greatestDistance := goodIn_r _ [58, 2, 3, 59, 60, 46, 61, 62, 63, 64, 65, 66, 67, 10, 68, 13, 33, 34, 35, 36, 37, 69, 70, 71, 72, 73, 74, 75] rfl (by decide +kernel)
set_option maxRecDepth 20000 in
theorem gX0_goBack_X0_greatestDistance : GoodIn wsX0_goBack (wsV RX0 63 RX0 yX0_greatestDistance wsX0_greatestDistance) := goodIn_app (goodIn_r _ [55, 56, 57, 10] rfl (by decide +kernel)) ggX0_goBack_X0_greatestDistance
set_option maxRecDepth 20000 in
theorem ggX0_goRound_X0_productsOf : GoodIn wsX0_goRound wsX0_productsOf := goodIn_r _ [9, 10, 39, 40, 41, 42, 43, 44, 45] rfl (by decide +kernel)
set_option maxRecDepth 20000 in
theorem gX0_goRound_X0_productsOf : GoodIn wsX0_goRound (wsV RX0 42 RX0 yX0_productsOf wsX0_productsOf) := goodIn_app (goodIn_r _ [5, 6, 7, 8] rfl (by decide +kernel)) ggX0_goRound_X0_productsOf
set_option maxRecDepth 20000 in
theorem ggX0_goRound_X4_determinant : GoodIn wsX0_goRound wsX4_determinant := goodIn_r _ [15, 16, 17, 18, 14, 19, 20, 21, 46, 47] rfl (by decide +kernel)
set_option maxRecDepth 20000 in
theorem gX0_goRound_X4_determinant : GoodIn wsX0_goRound (wsV RX0 49 RX4 yX4_determinant wsX4_determinant) := goodIn_app (goodIn_r _ [11, 12, 13, 14] rfl (by decide +kernel)) ggX0_goRound_X4_determinant
set_option maxRecDepth 20000 in
theorem ggX0_goRound_X0_nearestLoad : GoodIn wsX0_goRound wsX0_nearestLoad := goodIn_r _ [24, 25, 26, 27, 28, 29, 30, 31, 32, 33, 34, 35, 36, 37, 38] rfl (by decide +kernel)
set_option maxRecDepth 20000 in
theorem gX0_goRound_X0_nearestLoad : GoodIn wsX0_goRound (va_wsS RX0 75 yX0_nearestLoad wsX0_nearestLoad) := goodIn_app (goodIn_r _ [22, 23, 8] rfl (by decide +kernel)) ggX0_goRound_X0_nearestLoad
set_option maxRecDepth 20000 in
theorem ggX0_nearestLoad_J9_floorDiv_f86c9 : GoodIn wsX0_nearestLoad wsJ9_floorDiv_f86c9 := goodIn_r _ [14] rfl (by decide +kernel)
set_option maxRecDepth 20000 in
theorem gX0_nearestLoad_J9_floorDiv_f86c9 : GoodIn wsX0_nearestLoad (va_wsS RX0 81 yJ9_floorDiv_f86c9 wsJ9_floorDiv_f86c9) := goodIn_app (goodIn_r _ [11, 12, 13] rfl (by decide +kernel)) ggX0_nearestLoad_J9_floorDiv_f86c9
set_option maxRecDepth 20000 in
theorem ggX0_greatestDistance_X0_readingOf : GoodIn wsX0_greatestDistance wsX0_readingOf := goodIn_r _ [14, 15, 16, 17, 18, 13, 19, 20, 21, 22, 23, 24, 25, 26, 27] rfl (by decide +kernel)
set_option maxRecDepth 20000 in
theorem gX0_greatestDistance_X0_readingOf : GoodIn wsX0_greatestDistance (wsV RX0 97 RX0 yX0_readingOf wsX0_readingOf) := goodIn_app (goodIn_r _ [10, 11, 12, 13] rfl (by decide +kernel)) ggX0_greatestDistance_X0_readingOf
set_option maxRecDepth 20000 in
theorem ggX1_init_X4_init : GoodIn wsX1_init wsX4_init := goodIn_r _ [14, 15, 2, 3, 16, 17, 18, 19, 24, 25] rfl (by decide +kernel)
set_option maxRecDepth 20000 in
theorem gX1_init_X4_init_n25 : GoodIn wsX1_init (wsX4_init) := ggX1_init_X4_init
set_option maxRecDepth 20000 in
theorem ggX1_partOfFit_X1_setEquations : GoodIn wsX1_partOfFit wsX1_setEquations := goodIn_r _ [11, 12, 13, 14, 1, 15, 16, 17, 18, 19, 10, 20, 35, 36, 37, 38, 39, 40] rfl (by decide +kernel)
set_option maxRecDepth 20000 in
theorem gX1_partOfFit_X1_setEquations : GoodIn wsX1_partOfFit (wsV RX1 30 RX1 yX1_setEquations wsX1_setEquations) := goodIn_app (goodIn_r _ [7, 8, 9, 10] rfl (by decide +kernel)) ggX1_partOfFit_X1_setEquations
set_option maxRecDepth 20000 in
theorem ggX1_partOfFit_X4_determinant : GoodIn wsX1_partOfFit wsX4_determinant := goodIn_r _ [25, 26, 27, 28, 24, 29, 30, 31, 39, 40] rfl (by decide +kernel)
set_option maxRecDepth 20000 in
theorem gX1_partOfFit_X4_determinant : GoodIn wsX1_partOfFit (wsV RX1 34 RX4 yX4_determinant wsX4_determinant) := goodIn_app (goodIn_r _ [21, 22, 23, 24] rfl (by decide +kernel)) ggX1_partOfFit_X4_determinant
set_option maxRecDepth 20000 in
theorem ggX1_partOfFit_X1_commonDivisor : GoodIn wsX1_partOfFit wsX1_commonDivisor := goodIn_r _ [34] rfl (by decide +kernel)
set_option maxRecDepth 20000 in
theorem gX1_partOfFit_X1_commonDivisor : GoodIn wsX1_partOfFit (va_wsS RX1 46 yX1_commonDivisor wsX1_commonDivisor) := goodIn_app (goodIn_r _ [32, 33, 10] rfl (by decide +kernel)) ggX1_partOfFit_X1_commonDivisor
set_option maxRecDepth 20000 in
theorem ggX1_setEquations_X1_sumOfProducts : GoodIn wsX1_setEquations wsX1_sumOfProducts := goodIn_r _ [11, 1, 2, 12, 13, 14, 15] rfl (by decide +kernel)
set_option maxRecDepth 20000 in
theorem gX1_setEquations_X1_sumOfProducts : GoodIn wsX1_setEquations (wsV RX1 58 RX1 yX1_sumOfProducts wsX1_sumOfProducts) := goodIn_app (goodIn_r _ [7, 8, 9, 10] rfl (by decide +kernel)) ggX1_setEquations_X1_sumOfProducts
set_option maxRecDepth 20000 in
theorem ggX1_greatestMiss_X0_readingOf : GoodIn wsX1_greatestMiss wsX0_readingOf := goodIn_r _ [15, 16, 17, 18, 19, 14, 20, 21, 26, 27, 28, 29, 30, 31, 32] rfl (by decide +kernel)
set_option maxRecDepth 20000 in
theorem gX1_greatestMiss_X0_readingOf : GoodIn wsX1_greatestMiss (wsV RX1 62 RX0 yX0_readingOf wsX0_readingOf) := goodIn_app (goodIn_r _ [11, 12, 13, 14] rfl (by decide +kernel)) ggX1_greatestMiss_X0_readingOf
set_option maxRecDepth 20000 in
theorem ggX2_isAsTold_X9_isWithin : GoodIn wsX2_isAsTold wsX9_isWithin := goodIn_r _ [3] rfl (by decide +kernel)
set_option maxRecDepth 20000 in
theorem gX2_isAsTold_X9_isWithin_n28 : GoodIn wsX2_isAsTold (wsX9_isWithin) := ggX2_isAsTold_X9_isWithin
set_option maxRecDepth 20000 in
theorem ggX2_change_X2_lessen : GoodIn wsX2_change wsX2_lessen := goodIn_r _ [9] rfl (by decide +kernel)
set_option maxRecDepth 20000 in
theorem gX2_change_X2_lessen : GoodIn wsX2_change (va_wsS RX2 32 yX2_lessen wsX2_lessen) := goodIn_app (goodIn_r _ [6, 7, 8] rfl (by decide +kernel)) ggX2_change_X2_lessen
set_option maxRecDepth 20000 in
theorem ggX2_change_X2_drifted : GoodIn wsX2_change wsX2_drifted := goodIn_r _ [12, 13, 14, 15, 16] rfl (by decide +kernel)
set_option maxRecDepth 20000 in
theorem gX2_change_X2_drifted : GoodIn wsX2_change (va_wsS RX2 36 yX2_drifted wsX2_drifted) := goodIn_app (goodIn_r _ [10, 11, 8] rfl (by decide +kernel)) ggX2_change_X2_drifted
set_option maxRecDepth 20000 in
theorem ggX2_change_J9_floorDiv_f86c9 : GoodIn wsX2_change wsJ9_floorDiv_f86c9 := goodIn_r _ [19] rfl (by decide +kernel)
set_option maxRecDepth 20000 in
theorem gX2_change_J9_floorDiv_f86c9 : GoodIn wsX2_change (va_wsS RX2 42 yJ9_floorDiv_f86c9 wsJ9_floorDiv_f86c9) := goodIn_app (goodIn_r _ [17, 18, 15] rfl (by decide +kernel)) ggX2_change_J9_floorDiv_f86c9
set_option maxRecDepth 20000 in
theorem ggX2_change_X2_cos : GoodIn wsX2_change wsX2_cos := goodIn_r _ [22, 23, 24, 25, 15, 26] rfl (by decide +kernel)
set_option maxRecDepth 20000 in
theorem gX2_change_X2_cos : GoodIn wsX2_change (va_wsS RX2 48 yX2_cos wsX2_cos) := goodIn_app (goodIn_r _ [20, 21, 8] rfl (by decide +kernel)) ggX2_change_X2_cos
set_option maxRecDepth 20000 in
theorem ggX2_change_X2_share : GoodIn wsX2_change wsX2_share := goodIn_r _ [30, 2, 13, 14, 15, 16, 31, 32, 33, 34, 35] rfl (by decide +kernel)
set_option maxRecDepth 20000 in
theorem gX2_change_X2_share : GoodIn wsX2_change (wsV RX2 52 RX2 yX2_share wsX2_share) := goodIn_app (goodIn_r _ [27, 28, 29, 8] rfl (by decide +kernel)) ggX2_change_X2_share
set_option maxRecDepth 20000 in
theorem ggX2_drifted_J9_floorDiv_7cf53 : GoodIn wsX2_drifted wsJ9_floorDiv_7cf53 := goodIn_r _ [4] rfl (by decide +kernel)
set_option maxRecDepth 20000 in
theorem gX2_drifted_J9_floorDiv_7cf53 : GoodIn wsX2_drifted (va_wsS RX2 55 yJ9_floorDiv_7cf53 wsJ9_floorDiv_7cf53) := goodIn_app (goodIn_r _ [1, 2, 3] rfl (by decide +kernel)) ggX2_drifted_J9_floorDiv_7cf53
set_option maxRecDepth 20000 in
theorem ggX2_cos_J9_floorMod_7cf53 : GoodIn wsX2_cos wsJ9_floorMod_7cf53 := goodIn_r _ [5] rfl (by decide +kernel)
set_option maxRecDepth 20000 in
theorem gX2_cos_J9_floorMod_7cf53 : GoodIn wsX2_cos (va_wsS RX2 61 yJ9_floorMod_7cf53 wsJ9_floorMod_7cf53) := goodIn_app (goodIn_r _ [2, 3, 4] rfl (by decide +kernel)) ggX2_cos_J9_floorMod_7cf53
set_option maxRecDepth 20000 in
theorem ggX2_share_J9_floorDiv_7cf53 : GoodIn wsX2_share wsJ9_floorDiv_7cf53 := goodIn_r _ [5] rfl (by decide +kernel)
set_option maxRecDepth 20000 in
theorem gX2_share_J9_floorDiv_7cf53 : GoodIn wsX2_share (va_wsS RX2 55 yJ9_floorDiv_7cf53 wsJ9_floorDiv_7cf53) := goodIn_app (goodIn_r _ [2, 3, 4] rfl (by decide +kernel)) ggX2_share_J9_floorDiv_7cf53
set_option maxRecDepth 20000 in
theorem ggX3_init_X2_init : GoodIn wsX3_init wsX2_init := goodIn_r _ [17, 18, 2, 3, 19, 20, 21, 22, 23, 31, 32, 33, 34, 35] rfl (by decide +kernel)
set_option maxRecDepth 20000 in
theorem gX3_init_X2_init_n38 : GoodIn wsX3_init (wsX2_init) := ggX3_init_X2_init
set_option maxRecDepth 20000 in
theorem ggX3_append_X2_become : GoodIn wsX3_append wsX2_become := goodIn_r _ [7, 8, 9, 10, 11, 12, 20, 21, 22, 23, 24] rfl (by decide +kernel)
set_option maxRecDepth 20000 in
theorem gX3_append_X2_become : GoodIn wsX3_append (wsV RX3 39 RX2 yX2_become wsX2_become) := goodIn_app (goodIn_r _ [3, 4, 5, 6] rfl (by decide +kernel)) ggX3_append_X2_become
set_option maxRecDepth 20000 in
theorem ggX3_goThrough_X3_changeIfOn : GoodIn wsX3_goThrough wsX3_changeIfOn := goodIn_r _ [6, 7, 8, 9, 10, 11, 12, 13, 14, 15, 16, 17, 18, 19, 20, 21, 22, 23, 24, 25, 26, 27, 28, 29, 30, 31, 32, 33, 34, 35, 36, 37, 38, 39, 40, 41, 42, 43, 44, 45, 46, 47, 48, 49, 50, 51, 52, 53, 54, 55, 56] rfl (by decide +kernel)
set_option maxRecDepth 20000 in
theorem gX3_goThrough_X3_changeIfOn : GoodIn wsX3_goThrough (wsV RX3 43 RX3 yX3_changeIfOn wsX3_changeIfOn) := goodIn_app (goodIn_r _ [2, 3, 4, 5] rfl (by decide +kernel)) ggX3_goThrough_X3_changeIfOn
set_option maxRecDepth 20000 in
theorem ggX3_changeIfOn_X2_change : GoodIn wsX3_changeIfOn wsX2_change := goodIn_r _ [9, 10, 11, 12, 13, 14, 15, 16, 8, 17, 18, 19, 20, 21, 22, 23, 24, 25, 26, 27, 28, 29, 30, 31, 32, 33, 34, 35, 36, 37, 38, 46, 47, 48, 49, 50] rfl (by decide +kernel)
set_option maxRecDepth 20000 in
theorem gX3_changeIfOn_X2_change : GoodIn wsX3_changeIfOn (wsV RX3 51 RX2 yX2_change wsX2_change) := goodIn_app (goodIn_r _ [5, 6, 7, 8] rfl (by decide +kernel)) ggX3_changeIfOn_X2_change
set_option maxRecDepth 20000 in
theorem ggX3_isFelt_X3_goThrough : GoodIn wsX3_isFelt wsX3_goThrough := goodIn_r _ [10, 11, 12, 13, 14, 9, 15, 3, 16, 4, 5, 17, 18, 19, 20, 21, 22, 23, 24, 25, 26, 27, 28, 29, 30, 31, 32, 33, 34, 35, 36, 37, 38, 39, 40, 41, 42, 43, 44, 45, 46, 47, 48, 49, 50, 55, 56, 57, 58, 59, 60, 61, 62, 63, 64, 65, 66] rfl (by decide +kernel)
set_option maxRecDepth 20000 in
theorem gX3_isFelt_X3_goThrough : GoodIn wsX3_isFelt (wsV RX3 55 RX3 yX3_goThrough wsX3_goThrough) := goodIn_app (goodIn_r _ [6, 7, 8, 9] rfl (by decide +kernel)) ggX3_isFelt_X3_goThrough
set_option maxRecDepth 20000 in
theorem ggX3_isFelt_X2_change : GoodIn wsX3_isFelt wsX2_change := goodIn_r _ [21, 22, 23, 24, 25, 26, 27, 28, 20, 29, 30, 31, 32, 33, 34, 35, 36, 37, 38, 39, 40, 41, 42, 43, 44, 45, 46, 47, 48, 49, 50, 62, 63, 64, 65, 66] rfl (by decide +kernel)
set_option maxRecDepth 20000 in
theorem gX3_isFelt_X2_change : GoodIn wsX3_isFelt (wsV RX3 51 RX2 yX2_change wsX2_change) := goodIn_app (goodIn_r _ [17, 18, 19, 20] rfl (by decide +kernel)) ggX3_isFelt_X2_change
set_option maxRecDepth 20000 in
theorem ggX3_isFelt_X3_differ : GoodIn wsX3_isFelt wsX3_differ := goodIn_r _ [54, 1, 2, 55, 56, 57, 58, 59, 60, 61] rfl (by decide +kernel)
set_option maxRecDepth 20000 in
theorem gX3_isFelt_X3_differ : GoodIn wsX3_isFelt (wsV RX3 58 RX3 yX3_differ wsX3_differ) := goodIn_app (goodIn_r _ [51, 52, 53, 9] rfl (by decide +kernel)) ggX3_isFelt_X3_differ
set_option maxRecDepth 20000 in
theorem ggX3_isOrderFelt_X3_goThrough : GoodIn wsX3_isOrderFelt wsX3_goThrough := goodIn_r _ [7, 8, 9, 10, 11, 6, 12, 13, 14, 15, 16, 17, 18, 19, 20, 21, 22, 23, 24, 25, 26, 27, 28, 29, 30, 31, 32, 33, 34, 35, 36, 37, 38, 39, 40, 41, 42, 43, 44, 45, 46, 47, 48, 49, 50, 55, 56, 57, 58, 59, 60, 61, 62, 63, 64, 65, 66] rfl (by decide +kernel)
set_option maxRecDepth 20000 in
theorem gX3_isOrderFelt_X3_goThrough : GoodIn wsX3_isOrderFelt (wsV RX3 55 RX3 yX3_goThrough wsX3_goThrough) := goodIn_app (goodIn_r _ [3, 4, 5, 6] rfl (by decide +kernel)) ggX3_isOrderFelt_X3_goThrough
set_option maxRecDepth 20000 in
theorem ggX3_isOrderFelt_X3_changeIfOn : GoodIn wsX3_isOrderFelt wsX3_changeIfOn := goodIn_r _ [12, 13, 14, 15, 16, 17, 18, 19, 20, 21, 22, 23, 24, 25, 26, 27, 28, 29, 30, 31, 32, 33, 34, 35, 36, 37, 38, 39, 40, 41, 42, 43, 44, 45, 46, 47, 48, 49, 50, 55, 56, 57, 58, 59, 60, 61, 62, 63, 64, 65, 66] rfl (by decide +kernel)
set_option maxRecDepth 20000 in
theorem gX3_isOrderFelt_X3_changeIfOn : GoodIn wsX3_isOrderFelt (wsV RX3 43 RX3 yX3_changeIfOn wsX3_changeIfOn) := goodIn_app (goodIn_r _ [9, 10, 11, 6] rfl (by decide +kernel)) ggX3_isOrderFelt_X3_changeIfOn
set_option maxRecDepth 20000 in
theorem ggX3_isOrderFelt_X3_differ : GoodIn wsX3_isOrderFelt wsX3_differ := goodIn_r _ [54, 1, 2, 55, 56, 57, 58, 59, 60, 61] rfl (by decide +kernel)
set_option maxRecDepth 20000 in
theorem gX3_isOrderFelt_X3_differ : GoodIn wsX3_isOrderFelt (wsV RX3 58 RX3 yX3_differ wsX3_differ) := goodIn_app (goodIn_r _ [51, 52, 53, 6] rfl (by decide +kernel)) ggX3_isOrderFelt_X3_differ
set_option maxRecDepth 20000 in
theorem ggX4_determinant_X4_term : GoodIn wsX4_determinant wsX4_term := goodIn_r _ [5, 6, 7, 8, 9] rfl (by decide +kernel)
set_option maxRecDepth 20000 in
theorem gX4_determinant_X4_term : GoodIn wsX4_determinant (wsV RX4 20 RX4 yX4_term wsX4_term) := goodIn_app (goodIn_r _ [1, 2, 3, 4] rfl (by decide +kernel)) ggX4_determinant_X4_term
set_option maxRecDepth 20000 in
theorem ggX5_append_X5_setMove : GoodIn wsX5_append wsX5_setMove := goodIn_r _ [10, 2, 11, 12, 13, 14, 15, 16, 17, 3, 18, 19, 20, 21, 22, 23, 24, 25, 26, 27, 28] rfl (by decide +kernel)
set_option maxRecDepth 20000 in
theorem gX5_append_X5_setMove : GoodIn wsX5_append (wsV RX5 47 RX5 yX5_setMove wsX5_setMove) := goodIn_app (goodIn_r _ [6, 7, 8, 9] rfl (by decide +kernel)) ggX5_append_X5_setMove
set_option maxRecDepth 20000 in
theorem ggX5_plan_X5_setOfOpen : GoodIn wsX5_plan wsX5_setOfOpen := goodIn_r _ [8, 9, 10, 44, 45, 46, 47, 48, 49, 50, 51, 52, 53] rfl (by decide +kernel)
set_option maxRecDepth 20000 in
theorem gX5_plan_X5_setOfOpen : GoodIn wsX5_plan (wsV RX5 61 RX5 yX5_setOfOpen wsX5_setOfOpen) := goodIn_app (goodIn_r _ [4, 5, 6, 7] rfl (by decide +kernel)) ggX5_plan_X5_setOfOpen
set_option maxRecDepth 20000 in
theorem ggX5_plan_X5_setRest : GoodIn wsX5_plan wsX5_setRest := goodIn_r _ [14, 9, 2, 15, 16, 7, 17, 18, 19, 20, 21, 22, 23, 24, 25, 26, 27, 28, 29, 30, 44, 45, 46, 47, 48, 49, 50, 51, 52, 53] rfl (by decide +kernel)
set_option maxRecDepth 20000 in
theorem gX5_plan_X5_setRest : GoodIn wsX5_plan (wsV RX5 65 RX5 yX5_setRest wsX5_setRest) := goodIn_app (goodIn_r _ [11, 12, 13, 7] rfl (by decide +kernel)) ggX5_plan_X5_setRest
set_option maxRecDepth 20000 in
theorem ggX5_plan_X5_cell : GoodIn wsX5_plan wsX5_cell := goodIn_r _ [20] rfl (by decide +kernel)
set_option maxRecDepth 20000 in
theorem gX5_plan_X5_cell : GoodIn wsX5_plan (va_wsS RX5 68 yX5_cell wsX5_cell) := goodIn_app (goodIn_r _ [18, 19, 7] rfl (by decide +kernel)) ggX5_plan_X5_cell
set_option maxRecDepth 20000 in
theorem ggX5_plan_X5_setOrder : GoodIn wsX5_plan wsX5_setOrder := goodIn_r _ [34, 35, 36, 37, 38, 39, 40, 41, 42, 43, 21, 22, 23, 7, 24, 25, 9, 15, 16, 17, 26, 27, 28, 29, 30, 2, 18, 19, 20, 44, 45, 46, 47, 48, 49, 50, 51, 52, 53] rfl (by decide +kernel)
set_option maxRecDepth 20000 in
theorem gX5_plan_X5_setOrder : GoodIn wsX5_plan (wsV RX5 71 RX5 yX5_setOrder wsX5_setOrder) := goodIn_app (goodIn_r _ [31, 32, 33, 7] rfl (by decide +kernel)) ggX5_plan_X5_setOrder
set_option maxRecDepth 20000 in
theorem ggX5_setRest_X5_isIn : GoodIn wsX5_setRest wsX5_isIn := goodIn_r _ [6] rfl (by decide +kernel)
set_option maxRecDepth 20000 in
theorem gX5_setRest_X5_isIn : GoodIn wsX5_setRest (va_wsS RX5 75 yX5_isIn wsX5_isIn) := goodIn_app (goodIn_r _ [3, 4, 5] rfl (by decide +kernel)) ggX5_setRest_X5_isIn
set_option maxRecDepth 20000 in
theorem ggX5_setRest_X5_cell : GoodIn wsX5_setRest wsX5_cell := goodIn_r _ [9] rfl (by decide +kernel)
set_option maxRecDepth 20000 in
theorem gX5_setRest_X5_cell : GoodIn wsX5_setRest (va_wsS RX5 68 yX5_cell wsX5_cell) := goodIn_app (goodIn_r _ [7, 8, 5] rfl (by decide +kernel)) ggX5_setRest_X5_cell
set_option maxRecDepth 20000 in
theorem ggX5_setRest_X5_firstOfLeast : GoodIn wsX5_setRest wsX5_firstOfLeast := goodIn_r _ [13, 14, 1, 3, 4, 5, 6, 15, 16, 17, 18, 19, 2, 7, 8, 9, 20, 21, 22, 23, 24, 25, 26, 27, 28, 29] rfl (by decide +kernel)
set_option maxRecDepth 20000 in
theorem gX5_setRest_X5_firstOfLeast : GoodIn wsX5_setRest (wsV RX5 79 RX5 yX5_firstOfLeast wsX5_firstOfLeast) := goodIn_app (goodIn_r _ [10, 11, 12, 5] rfl (by decide +kernel)) ggX5_setRest_X5_firstOfLeast
set_option maxRecDepth 20000 in
theorem ggX5_setRest_X5_sumBy : GoodIn wsX5_setRest wsX5_sumBy := goodIn_r _ [18, 19, 2, 7, 8, 5, 9, 20, 21, 22, 23, 24, 25, 26, 27, 28, 29] rfl (by decide +kernel)
set_option maxRecDepth 20000 in
theorem gX5_setRest_X5_sumBy : GoodIn wsX5_setRest (wsV RX5 82 RX5 yX5_sumBy wsX5_sumBy) := goodIn_app (goodIn_r _ [15, 16, 17, 5] rfl (by decide +kernel)) ggX5_setRest_X5_sumBy
set_option maxRecDepth 20000 in
theorem ggX5_sumBy_X5_cell : GoodIn wsX5_sumBy wsX5_cell := goodIn_r _ [6] rfl (by decide +kernel)
set_option maxRecDepth 20000 in
theorem gX5_sumBy_X5_cell : GoodIn wsX5_sumBy (va_wsS RX5 68 yX5_cell wsX5_cell) := goodIn_app (goodIn_r _ [3, 4, 5] rfl (by decide +kernel)) ggX5_sumBy_X5_cell
set_option maxRecDepth 20000 in
theorem ggX5_setOrder_J6_bitCount_0f7a4 : GoodIn wsX5_setOrder wsJ6_bitCount_0f7a4 := goodIn_r _ [6, 7, 8, 9] rfl (by decide +kernel)
set_option maxRecDepth 20000 in
theorem gX5_setOrder_J6_bitCount_0f7a4 : GoodIn wsX5_setOrder (va_wsS RX5 86 yJ6_bitCount_0f7a4 wsJ6_bitCount_0f7a4) := goodIn_app (goodIn_r _ [3, 4, 5] rfl (by decide +kernel)) ggX5_setOrder_J6_bitCount_0f7a4
set_option maxRecDepth 20000 in
theorem ggX5_setOrder_X5_firstOfLeast : GoodIn wsX5_setOrder wsX5_firstOfLeast := goodIn_r _ [14, 15, 16, 17, 18, 13, 19, 20, 21, 22, 23, 24, 25, 26, 27, 28, 29, 30, 31, 32, 33, 34, 35, 36, 37, 38] rfl (by decide +kernel)
set_option maxRecDepth 20000 in
theorem gX5_setOrder_X5_firstOfLeast : GoodIn wsX5_setOrder (wsV RX5 79 RX5 yX5_firstOfLeast wsX5_firstOfLeast) := goodIn_app (goodIn_r _ [10, 11, 12, 13] rfl (by decide +kernel)) ggX5_setOrder_X5_firstOfLeast
set_option maxRecDepth 20000 in
theorem ggX5_firstOfLeast_X5_isIn : GoodIn wsX5_firstOfLeast wsX5_isIn := goodIn_r _ [6] rfl (by decide +kernel)
set_option maxRecDepth 20000 in
theorem gX5_firstOfLeast_X5_isIn : GoodIn wsX5_firstOfLeast (va_wsS RX5 75 yX5_isIn wsX5_isIn) := goodIn_app (goodIn_r _ [3, 4, 5] rfl (by decide +kernel)) ggX5_firstOfLeast_X5_isIn
set_option maxRecDepth 20000 in
theorem ggX5_firstOfLeast_X5_sumBy : GoodIn wsX5_firstOfLeast wsX5_sumBy := goodIn_r _ [10, 11, 12, 13, 14, 5, 15, 16, 17, 18, 19, 20, 21, 22, 23, 24, 25] rfl (by decide +kernel)
set_option maxRecDepth 20000 in
theorem gX5_firstOfLeast_X5_sumBy : GoodIn wsX5_firstOfLeast (wsV RX5 82 RX5 yX5_sumBy wsX5_sumBy) := goodIn_app (goodIn_r _ [7, 8, 9, 5] rfl (by decide +kernel)) ggX5_firstOfLeast_X5_sumBy
set_option maxRecDepth 20000 in
theorem ggX6_take_X9_setRow : GoodIn wsX6_take wsX9_setRow := goodIn_r _ [8] rfl (by decide +kernel)
set_option maxRecDepth 20000 in
theorem gX6_take_X9_setRow_n39 : GoodIn wsX6_take (wsX9_setRow) := ggX6_take_X9_setRow
set_option maxRecDepth 20000 in
theorem ggX6_take_X6_firstBeyond : GoodIn wsX6_take wsX6_firstBeyond := goodIn_r _ [13, 14, 15, 16, 17, 18, 45, 46, 47, 48, 49, 50, 51, 52] rfl (by decide +kernel)
set_option maxRecDepth 20000 in
theorem gX6_take_X6_firstBeyond : GoodIn wsX6_take (wsV RX6 43 RX6 yX6_firstBeyond wsX6_firstBeyond) := goodIn_app (goodIn_r _ [9, 10, 11, 12] rfl (by decide +kernel)) ggX6_take_X6_firstBeyond
set_option maxRecDepth 20000 in
theorem ggX6_take_X6_isSettled : GoodIn wsX6_take wsX6_isSettled := goodIn_r _ [22, 2, 23, 24, 25, 26, 27, 12, 28, 29, 30, 31, 32, 16, 33, 34, 35, 36, 37, 38, 39, 40, 1, 41, 42, 43, 44, 45, 46, 47, 48, 49, 50, 51, 52] rfl (by decide +kernel)
set_option maxRecDepth 20000 in
theorem gX6_take_X6_isSettled : GoodIn wsX6_take (wsV RX6 47 RX6 yX6_isSettled wsX6_isSettled) := goodIn_app (goodIn_r _ [19, 20, 21, 12] rfl (by decide +kernel)) ggX6_take_X6_isSettled
set_option maxRecDepth 20000 in
theorem ggX6_isSettled_X6_spreadOfLatest : GoodIn wsX6_isSettled wsX6_spreadOfLatest := goodIn_r _ [8, 9, 10, 2, 11, 12, 13, 14, 15, 16, 17, 18, 19, 20, 7, 21, 22, 1, 23, 24, 25, 26, 27, 28, 29, 30, 31, 32, 33, 34] rfl (by decide +kernel)
set_option maxRecDepth 20000 in
theorem gX6_isSettled_X6_spreadOfLatest : GoodIn wsX6_isSettled (wsV RX6 57 RX6 yX6_spreadOfLatest wsX6_spreadOfLatest) := goodIn_app (goodIn_r _ [4, 5, 6, 7] rfl (by decide +kernel)) ggX6_isSettled_X6_spreadOfLatest
set_option maxRecDepth 20000 in
theorem ggX6_spreadOfLatest_X6_readingAgo : GoodIn wsX6_spreadOfLatest wsX6_readingAgo := goodIn_r _ [15, 16, 17, 18, 19, 20, 21, 22, 23, 24, 25, 26, 27, 28, 29] rfl (by decide +kernel)
set_option maxRecDepth 20000 in
theorem gX6_spreadOfLatest_X6_readingAgo : GoodIn wsX6_spreadOfLatest (wsV RX6 62 RX6 yX6_readingAgo wsX6_readingAgo) := goodIn_app (goodIn_r _ [11, 12, 13, 14] rfl (by decide +kernel)) ggX6_spreadOfLatest_X6_readingAgo
set_option maxRecDepth 20000 in
theorem ggX6_sumOfLatest_X6_readingAgo : GoodIn wsX6_sumOfLatest wsX6_readingAgo := goodIn_r _ [6, 7, 8, 9, 10, 11, 12, 13, 14, 15, 16, 17, 18, 19, 20] rfl (by decide +kernel)
set_option maxRecDepth 20000 in
theorem gX6_sumOfLatest_X6_readingAgo : GoodIn wsX6_sumOfLatest (wsV RX6 62 RX6 yX6_readingAgo wsX6_readingAgo) := goodIn_app (goodIn_r _ [2, 3, 4, 5] rfl (by decide +kernel)) ggX6_sumOfLatest_X6_readingAgo
set_option maxRecDepth 20000 in
theorem ggX6_readingAgo_J9_floorMod_7cf53 : GoodIn wsX6_readingAgo wsJ9_floorMod_7cf53 := goodIn_r _ [6] rfl (by decide +kernel)
set_option maxRecDepth 20000 in
theorem gX6_readingAgo_J9_floorMod_7cf53 : GoodIn wsX6_readingAgo (va_wsS RX6 72 yJ9_floorMod_7cf53 wsJ9_floorMod_7cf53) := goodIn_app (goodIn_r _ [3, 4, 5] rfl (by decide +kernel)) ggX6_readingAgo_J9_floorMod_7cf53
set_option maxRecDepth 20000 in
theorem ggX8_isPressure_X9_isWithin : GoodIn wsX8_isPressure wsX9_isWithin := goodIn_r _ [3] rfl (by decide +kernel)
set_option maxRecDepth 20000 in
theorem gX8_isPressure_X9_isWithin_n26 : GoodIn wsX8_isPressure (wsX9_isWithin) := ggX8_isPressure_X9_isWithin
set_option maxRecDepth 20000 in
theorem ggX8_takeFrom_X7_get : GoodIn wsX8_takeFrom wsX7_get := goodIn_r _ [8, 9, 21, 22, 23] rfl (by decide +kernel)
set_option maxRecDepth 20000 in
theorem gX8_takeFrom_X7_get : GoodIn wsX8_takeFrom (wsV RX8 30 RX7 yX7_get wsX7_get) := goodIn_app (goodIn_r _ [4, 5, 6, 7] rfl (by decide +kernel)) ggX8_takeFrom_X7_get
set_option maxRecDepth 20000 in
theorem ggX8_takeFrom_X8_isPressure : GoodIn wsX8_takeFrom wsX8_isPressure := goodIn_r _ [13, 14, 15, 16] rfl (by decide +kernel)
set_option maxRecDepth 20000 in
theorem gX8_takeFrom_X8_isPressure : GoodIn wsX8_takeFrom (va_wsS RX8 36 yX8_isPressure wsX8_isPressure) := goodIn_app (goodIn_r _ [10, 11, 12] rfl (by decide +kernel)) ggX8_takeFrom_X8_isPressure
set_option maxRecDepth 20000 in
theorem ggX8_compare_X8_sum : GoodIn wsX8_compare wsX8_sum := goodIn_r _ [10, 5, 11, 12, 27, 28, 29, 30] rfl (by decide +kernel)
set_option maxRecDepth 20000 in
theorem gX8_compare_X8_sum : GoodIn wsX8_compare (wsV RX8 40 RX8 yX8_sum wsX8_sum) := goodIn_app (goodIn_r _ [6, 7, 8, 9] rfl (by decide +kernel)) ggX8_compare_X8_sum
set_option maxRecDepth 20000 in
theorem ggX8_compare_X8_canMend : GoodIn wsX8_compare wsX8_canMend := goodIn_r _ [16, 11, 12, 17, 18, 3, 19, 20, 21, 22, 23, 24, 25, 26, 27, 28, 29, 30] rfl (by decide +kernel)
set_option maxRecDepth 20000 in
theorem gX8_compare_X8_canMend : GoodIn wsX8_compare (wsV RX8 49 RX8 yX8_canMend wsX8_canMend) := goodIn_app (goodIn_r _ [13, 14, 15, 9] rfl (by decide +kernel)) ggX8_compare_X8_canMend
set_option maxRecDepth 20000 in
theorem ggX8_canMend_J9_floorDiv_7cf53 : GoodIn wsX8_canMend wsJ9_floorDiv_7cf53 := goodIn_r _ [13] rfl (by decide +kernel)
set_option maxRecDepth 20000 in
theorem gX8_canMend_J9_floorDiv_7cf53 : GoodIn wsX8_canMend (va_wsS RX8 53 yJ9_floorDiv_7cf53 wsJ9_floorDiv_7cf53) := goodIn_app (goodIn_r _ [10, 11, 12] rfl (by decide +kernel)) ggX8_canMend_J9_floorDiv_7cf53
set_option maxRecDepth 20000 in
theorem ggX8_pressureOfLost_X8_sum : GoodIn wsX8_pressureOfLost wsX8_sum := goodIn_r _ [8, 1, 3, 9, 20, 21, 22, 23] rfl (by decide +kernel)
set_option maxRecDepth 20000 in
theorem gX8_pressureOfLost_X8_sum : GoodIn wsX8_pressureOfLost (wsV RX8 40 RX8 yX8_sum wsX8_sum) := goodIn_app (goodIn_r _ [4, 5, 6, 7] rfl (by decide +kernel)) ggX8_pressureOfLost_X8_sum
set_option maxRecDepth 20000 in
theorem ggX8_pressureOfLost_J9_floorDiv_7cf53 : GoodIn wsX8_pressureOfLost wsJ9_floorDiv_7cf53 := goodIn_r _ [13] rfl (by decide +kernel)
set_option maxRecDepth 20000 in
theorem gX8_pressureOfLost_J9_floorDiv_7cf53 : GoodIn wsX8_pressureOfLost (va_wsS RX8 53 yJ9_floorDiv_7cf53 wsJ9_floorDiv_7cf53) := goodIn_app (goodIn_r _ [10, 11, 12] rfl (by decide +kernel)) ggX8_pressureOfLost_J9_floorDiv_7cf53
set_option maxRecDepth 20000 in
theorem ggX8_pressureOfLost_X8_isPressure : GoodIn wsX8_pressureOfLost wsX8_isPressure := goodIn_r _ [16, 17, 18, 19] rfl (by decide +kernel)
set_option maxRecDepth 20000 in
theorem gX8_pressureOfLost_X8_isPressure : GoodIn wsX8_pressureOfLost (va_wsS RX8 36 yX8_isPressure wsX8_isPressure) := goodIn_app (goodIn_r _ [14, 15, 7] rfl (by decide +kernel)) ggX8_pressureOfLost_X8_isPressure
set_option maxRecDepth 20000 in
theorem ggX9_init_X0_init : GoodIn wsX9_init wsX0_init := goodIn_r _ [33, 34, 2, 3, 35, 36, 37, 38, 39, 40, 41, 42, 43, 44, 45, 46, 47, 48, 49, 50, 51, 52, 53, 54, 127, 128, 129, 130, 131, 132, 133, 177, 178] rfl (by decide +kernel)
set_option maxRecDepth 20000 in
theorem gX9_init_X0_init_n9 : GoodIn wsX9_init (wsX0_init) := ggX9_init_X0_init
set_option maxRecDepth 20000 in
theorem ggX9_init_X1_init : GoodIn wsX9_init wsX1_init := goodIn_r _ [56, 57, 2, 3, 58, 36, 59, 60, 61, 62, 45, 46, 63, 48, 49, 50, 51, 52, 53, 54, 141, 142, 143, 144, 177, 178] rfl (by decide +kernel)
set_option maxRecDepth 20000 in
theorem gX9_init_X1_init_n18 : GoodIn wsX9_init (wsX1_init) := ggX9_init_X1_init
set_option maxRecDepth 20000 in
theorem ggX9_init_X3_init : GoodIn wsX9_init wsX3_init := goodIn_r _ [66, 67, 2, 3, 68, 69, 70, 36, 71, 72, 73, 52, 74, 75, 76, 77, 78, 79, 80, 81, 82, 83, 84, 85, 145, 146, 147, 148, 149, 150, 151, 179, 180, 181, 182, 183] rfl (by decide +kernel)
set_option maxRecDepth 20000 in
theorem gX9_init_X3_init : GoodIn wsX9_init (wsX3_init) := ggX9_init_X3_init
set_option maxRecDepth 20000 in
theorem ggX9_init_X5_init : GoodIn wsX9_init wsX5_init := goodIn_r _ [87, 88, 2, 3, 89, 90, 91, 92, 36, 93, 94, 95, 96, 97, 98, 99, 100, 152, 153, 154, 155, 156, 157, 158, 159, 160, 161] rfl (by decide +kernel)
set_option maxRecDepth 20000 in
theorem gX9_init_X5_init_n32 : GoodIn wsX9_init (wsX5_init) := ggX9_init_X5_init
set_option maxRecDepth 20000 in
theorem ggX9_init_X6_init : GoodIn wsX9_init wsX6_init := goodIn_r _ [102, 103, 2, 3, 104, 105, 106, 107, 108, 109, 110, 111, 112, 36, 113, 162, 163, 164, 165, 166, 167, 168, 169] rfl (by decide +kernel)
set_option maxRecDepth 20000 in
theorem gX9_init_X6_init_n39 : GoodIn wsX9_init (wsX6_init) := ggX9_init_X6_init
set_option maxRecDepth 20000 in
theorem ggX9_init_X8_init : GoodIn wsX9_init wsX8_init := goodIn_r _ [115, 116, 2, 3, 117, 90, 118, 36, 119, 120, 170, 171, 172, 173] rfl (by decide +kernel)
set_option maxRecDepth 20000 in
theorem gX9_init_X8_init_n46 : GoodIn wsX9_init (wsX8_init) := ggX9_init_X8_init
set_option maxRecDepth 20000 in
theorem ggX9_init_X7_init : GoodIn wsX9_init wsX7_init := goodIn_r _ [122, 123, 2, 3, 124, 125, 36, 126, 174, 175, 176] rfl (by decide +kernel)
set_option maxRecDepth 20000 in
theorem gX9_init_X7_init_n57 : GoodIn wsX9_init (wsX7_init) := ggX9_init_X7_init
set_option maxRecDepth 20000 in
theorem ggX9_first_X9_isIndex : GoodIn wsX9_first wsX9_isIndex := goodIn_r _ [6] rfl (by decide +kernel)
set_option maxRecDepth 20000 in
theorem gX9_first_X9_isIndex : GoodIn wsX9_first (va_wsS RX9 58 yX9_isIndex wsX9_isIndex) := goodIn_app (goodIn_r _ [3, 4, 5] rfl (by decide +kernel)) ggX9_first_X9_isIndex
set_option maxRecDepth 20000 in
theorem ggX9_first_X9_isWithin : GoodIn wsX9_first wsX9_isWithin := goodIn_r _ [9] rfl (by decide +kernel)
set_option maxRecDepth 20000 in
theorem gX9_first_X9_isWithin : GoodIn wsX9_first (va_wsS RX9 62 yX9_isWithin wsX9_isWithin) := goodIn_app (goodIn_r _ [7, 8, 5] rfl (by decide +kernel)) ggX9_first_X9_isWithin
set_option maxRecDepth 20000 in
theorem ggX9_second_X9_isIndex : GoodIn wsX9_second wsX9_isIndex := goodIn_r _ [6] rfl (by decide +kernel)
set_option maxRecDepth 20000 in
theorem gX9_second_X9_isIndex : GoodIn wsX9_second (va_wsS RX9 58 yX9_isIndex wsX9_isIndex) := goodIn_app (goodIn_r _ [3, 4, 5] rfl (by decide +kernel)) ggX9_second_X9_isIndex
set_option maxRecDepth 20000 in
theorem ggX9_second_X9_isWithin : GoodIn wsX9_second wsX9_isWithin := goodIn_r _ [9] rfl (by decide +kernel)
set_option maxRecDepth 20000 in
theorem gX9_second_X9_isWithin : GoodIn wsX9_second (va_wsS RX9 62 yX9_isWithin wsX9_isWithin) := goodIn_app (goodIn_r _ [7, 8, 5] rfl (by decide +kernel)) ggX9_second_X9_isWithin
set_option maxRecDepth 20000 in
theorem ggX9_reading_X9_isIndex : GoodIn wsX9_reading wsX9_isIndex := goodIn_r _ [6] rfl (by decide +kernel)
set_option maxRecDepth 20000 in
theorem gX9_reading_X9_isIndex : GoodIn wsX9_reading (va_wsS RX9 58 yX9_isIndex wsX9_isIndex) := goodIn_app (goodIn_r _ [3, 4, 5] rfl (by decide +kernel)) ggX9_reading_X9_isIndex
set_option maxRecDepth 20000 in
theorem ggX9_reading_X9_areLoads : GoodIn wsX9_reading wsX9_areLoads := goodIn_r _ [9, 10, 11, 5, 12] rfl (by decide +kernel)
set_option maxRecDepth 20000 in
theorem gX9_reading_X9_areLoads : GoodIn wsX9_reading (va_wsS RX9 72 yX9_areLoads wsX9_areLoads) := goodIn_app (goodIn_r _ [7, 8, 5] rfl (by decide +kernel)) ggX9_reading_X9_areLoads
set_option maxRecDepth 20000 in
theorem ggX9_reading_X0_readingOf : GoodIn wsX9_reading wsX0_readingOf := goodIn_r _ [17, 18, 19, 20, 21, 16, 22, 23, 31, 32, 33, 34, 35, 36, 37] rfl (by decide +kernel)
set_option maxRecDepth 20000 in
theorem gX9_reading_X0_readingOf : GoodIn wsX9_reading (wsV RX9 77 RX0 yX0_readingOf wsX0_readingOf) := goodIn_app (goodIn_r _ [13, 14, 15, 16] rfl (by decide +kernel)) ggX9_reading_X0_readingOf
set_option maxRecDepth 20000 in
theorem ggX9_back_X9_areReadings : GoodIn wsX9_back wsX9_areReadings := goodIn_r _ [5, 6, 7, 8, 4, 9] rfl (by decide +kernel)
set_option maxRecDepth 20000 in
theorem gX9_back_X9_areReadings : GoodIn wsX9_back (va_wsS RX9 81 yX9_areReadings wsX9_areReadings) := goodIn_app (goodIn_r _ [2, 3, 4] rfl (by decide +kernel)) ggX9_back_X9_areReadings
set_option maxRecDepth 20000 in
theorem ggX9_back_X0_goBack : GoodIn wsX9_back wsX0_goBack := goodIn_r _ [14, 15, 16, 17, 18, 19, 20, 21, 22, 23, 13, 24, 25, 26, 27, 28, 29, 30, 31, 32, 33, 34, 35, 36, 37, 38, 4, 39, 40, 41, 42, 43, 44, 45, 46, 47, 48, 49, 50, 51, 52, 53, 54, 55, 56, 57, 58, 59, 60, 61, 62, 63, 64, 65, 66, 67, 68, 69, 70, 71, 72, 73, 74, 75, 76, 77, 78, 79, 80, 88, 89, 90, 91, 92, 93, 94, 95, 96] rfl (by decide +kernel)
set_option maxRecDepth 20000 in
theorem gX9_back_X0_goBack : GoodIn wsX9_back (wsV RX9 84 RX0 yX0_goBack wsX0_goBack) := goodIn_app (goodIn_r _ [10, 11, 12, 13] rfl (by decide +kernel)) ggX9_back_X0_goBack
set_option maxRecDepth 20000 in
theorem ggX9_found_X9_isIndex : GoodIn wsX9_found wsX9_isIndex := goodIn_r _ [8] rfl (by decide +kernel)
set_option maxRecDepth 20000 in
theorem gX9_found_X9_isIndex : GoodIn wsX9_found (va_wsS RX9 58 yX9_isIndex wsX9_isIndex) := goodIn_app (goodIn_r _ [5, 6, 7] rfl (by decide +kernel)) ggX9_found_X9_isIndex
set_option maxRecDepth 20000 in
theorem ggX9_point_X9_areLoads : GoodIn wsX9_point wsX9_areLoads := goodIn_r _ [8, 9, 10, 7, 11] rfl (by decide +kernel)
set_option maxRecDepth 20000 in
theorem gX9_point_X9_areLoads : GoodIn wsX9_point (va_wsS RX9 72 yX9_areLoads wsX9_areLoads) := goodIn_app (goodIn_r _ [5, 6, 7] rfl (by decide +kernel)) ggX9_point_X9_areLoads
set_option maxRecDepth 20000 in
theorem ggX9_point_X9_areReadings : GoodIn wsX9_point wsX9_areReadings := goodIn_r _ [14, 15, 9, 10, 7, 11] rfl (by decide +kernel)
set_option maxRecDepth 20000 in
theorem gX9_point_X9_areReadings : GoodIn wsX9_point (va_wsS RX9 81 yX9_areReadings wsX9_areReadings) := goodIn_app (goodIn_r _ [12, 13, 7] rfl (by decide +kernel)) ggX9_point_X9_areReadings
set_option maxRecDepth 20000 in
theorem ggX9_point_X9_setRow : GoodIn wsX9_point wsX9_setRow := goodIn_r _ [18] rfl (by decide +kernel)
set_option maxRecDepth 20000 in
theorem gX9_point_X9_setRow : GoodIn wsX9_point (va_wsS RX9 105 yX9_setRow wsX9_setRow) := goodIn_app (goodIn_r _ [16, 17, 7] rfl (by decide +kernel)) ggX9_point_X9_setRow
set_option maxRecDepth 20000 in
theorem ggX9_fit_X9_isIndex : GoodIn wsX9_fit wsX9_isIndex := goodIn_r _ [6] rfl (by decide +kernel)
set_option maxRecDepth 20000 in
theorem gX9_fit_X9_isIndex : GoodIn wsX9_fit (va_wsS RX9 58 yX9_isIndex wsX9_isIndex) := goodIn_app (goodIn_r _ [3, 4, 5] rfl (by decide +kernel)) ggX9_fit_X9_isIndex
set_option maxRecDepth 20000 in
theorem ggX9_fit_X1_partOfFit : GoodIn wsX9_fit wsX1_partOfFit := goodIn_r _ [11, 12, 13, 14, 15, 16, 17, 18, 19, 20, 10, 21, 22, 23, 24, 25, 26, 27, 28, 29, 30, 31, 32, 33, 34, 35, 36, 37, 38, 39, 40, 41, 42, 43, 44, 52, 53, 54, 55, 56, 57] rfl (by decide +kernel)
set_option maxRecDepth 20000 in
theorem gX9_fit_X1_partOfFit : GoodIn wsX9_fit (wsV RX9 114 RX1 yX1_partOfFit wsX1_partOfFit) := goodIn_app (goodIn_r _ [7, 8, 9, 10] rfl (by decide +kernel)) ggX9_fit_X1_partOfFit
set_option maxRecDepth 20000 in
theorem ggX9_miss_X9_isIndex : GoodIn wsX9_miss wsX9_isIndex := goodIn_r _ [7] rfl (by decide +kernel)
set_option maxRecDepth 20000 in
theorem gX9_miss_X9_isIndex : GoodIn wsX9_miss (va_wsS RX9 58 yX9_isIndex wsX9_isIndex) := goodIn_app (goodIn_r _ [4, 5, 6] rfl (by decide +kernel)) ggX9_miss_X9_isIndex
set_option maxRecDepth 20000 in
theorem ggX9_miss_X1_greatestMiss : GoodIn wsX9_miss wsX1_greatestMiss := goodIn_r _ [12, 13, 14, 15, 16, 17, 18, 19, 20, 21, 22, 23, 24, 25, 26, 27, 28, 29, 30, 31, 32, 33, 41, 42, 43, 44, 45, 46, 47, 48, 49, 50, 51] rfl (by decide +kernel)
set_option maxRecDepth 20000 in
theorem gX9_miss_X1_greatestMiss : GoodIn wsX9_miss (wsV RX9 118 RX1 yX1_greatestMiss wsX1_greatestMiss) := goodIn_app (goodIn_r _ [8, 9, 10, 11] rfl (by decide +kernel)) ggX9_miss_X1_greatestMiss
set_option maxRecDepth 20000 in
theorem ggX9_correct_X2_isAsTold : GoodIn wsX9_correct wsX2_isAsTold := goodIn_r _ [6, 7, 8, 9] rfl (by decide +kernel)
set_option maxRecDepth 20000 in
theorem gX9_correct_X2_isAsTold : GoodIn wsX9_correct (va_wsS RX9 122 yX2_isAsTold wsX2_isAsTold) := goodIn_app (goodIn_r _ [3, 4, 5] rfl (by decide +kernel)) ggX9_correct_X2_isAsTold
set_option maxRecDepth 20000 in
theorem ggX9_correct_X3_append : GoodIn wsX9_correct wsX3_append := goodIn_r _ [14, 15, 16, 17, 18, 19, 5, 20, 21, 22, 23, 24, 25, 33, 34, 35, 36, 37, 38, 39, 40, 41, 42, 43, 44] rfl (by decide +kernel)
set_option maxRecDepth 20000 in
theorem gX9_correct_X3_append : GoodIn wsX9_correct (wsV RX9 129 RX3 yX3_append wsX3_append) := goodIn_app (goodIn_r _ [10, 11, 12, 13] rfl (by decide +kernel)) ggX9_correct_X3_append
set_option maxRecDepth 20000 in
theorem ggX9_turn_X9_isIndex : GoodIn wsX9_turn wsX9_isIndex := goodIn_r _ [8] rfl (by decide +kernel)
set_option maxRecDepth 20000 in
theorem gX9_turn_X9_isIndex : GoodIn wsX9_turn (va_wsS RX9 58 yX9_isIndex wsX9_isIndex) := goodIn_app (goodIn_r _ [5, 6, 7] rfl (by decide +kernel)) ggX9_turn_X9_isIndex
set_option maxRecDepth 20000 in
theorem ggX9_swap_X9_isIndex : GoodIn wsX9_swap wsX9_isIndex := goodIn_r _ [7] rfl (by decide +kernel)
set_option maxRecDepth 20000 in
theorem gX9_swap_X9_isIndex : GoodIn wsX9_swap (va_wsS RX9 58 yX9_isIndex wsX9_isIndex) := goodIn_app (goodIn_r _ [4, 5, 6] rfl (by decide +kernel)) ggX9_swap_X9_isIndex
set_option maxRecDepth 20000 in
theorem ggX9_raw_X9_areReadings : GoodIn wsX9_raw wsX9_areReadings := goodIn_r _ [8, 9, 10, 11, 7, 12] rfl (by decide +kernel)
set_option maxRecDepth 20000 in
theorem gX9_raw_X9_areReadings : GoodIn wsX9_raw (va_wsS RX9 81 yX9_areReadings wsX9_areReadings) := goodIn_app (goodIn_r _ [5, 6, 7] rfl (by decide +kernel)) ggX9_raw_X9_areReadings
set_option maxRecDepth 20000 in
theorem ggX9_raw_X9_isIndex : GoodIn wsX9_raw wsX9_isIndex := goodIn_r _ [15] rfl (by decide +kernel)
set_option maxRecDepth 20000 in
theorem gX9_raw_X9_isIndex : GoodIn wsX9_raw (va_wsS RX9 58 yX9_isIndex wsX9_isIndex) := goodIn_app (goodIn_r _ [13, 14, 7] rfl (by decide +kernel)) ggX9_raw_X9_isIndex
set_option maxRecDepth 20000 in
theorem ggX9_raw_X9_setRow : GoodIn wsX9_raw wsX9_setRow := goodIn_r _ [18] rfl (by decide +kernel)
set_option maxRecDepth 20000 in
theorem gX9_raw_X9_setRow : GoodIn wsX9_raw (va_wsS RX9 105 yX9_setRow wsX9_setRow) := goodIn_app (goodIn_r _ [16, 17, 7] rfl (by decide +kernel)) ggX9_raw_X9_setRow
set_option maxRecDepth 20000 in
theorem ggX9_corrected_X9_isIndex : GoodIn wsX9_corrected wsX9_isIndex := goodIn_r _ [7] rfl (by decide +kernel)
set_option maxRecDepth 20000 in
theorem gX9_corrected_X9_isIndex : GoodIn wsX9_corrected (va_wsS RX9 58 yX9_isIndex wsX9_isIndex) := goodIn_app (goodIn_r _ [4, 5, 6] rfl (by decide +kernel)) ggX9_corrected_X9_isIndex
set_option maxRecDepth 20000 in
theorem ggX9_corrected_X3_goThrough : GoodIn wsX9_corrected wsX3_goThrough := goodIn_r _ [12, 13, 14, 15, 16, 11, 17, 18, 19, 20, 21, 22, 23, 24, 25, 26, 27, 28, 29, 30, 31, 32, 33, 34, 35, 36, 37, 38, 39, 40, 41, 42, 43, 44, 45, 46, 47, 48, 49, 50, 51, 52, 53, 54, 55, 63, 64, 65, 66, 67, 68, 69, 70, 71, 72, 73, 74] rfl (by decide +kernel)
set_option maxRecDepth 20000 in
theorem gX9_corrected_X3_goThrough : GoodIn wsX9_corrected (wsV RX9 152 RX3 yX3_goThrough wsX3_goThrough) := goodIn_app (goodIn_r _ [8, 9, 10, 11] rfl (by decide +kernel)) ggX9_corrected_X3_goThrough
set_option maxRecDepth 20000 in
theorem ggX9_touches_X9_isIndex : GoodIn wsX9_touches wsX9_isIndex := goodIn_r _ [6] rfl (by decide +kernel)
set_option maxRecDepth 20000 in
theorem gX9_touches_X9_isIndex : GoodIn wsX9_touches (va_wsS RX9 58 yX9_isIndex wsX9_isIndex) := goodIn_app (goodIn_r _ [3, 4, 5] rfl (by decide +kernel)) ggX9_touches_X9_isIndex
set_option maxRecDepth 20000 in
theorem ggX9_touches_X3_isFelt : GoodIn wsX9_touches wsX3_isFelt := goodIn_r _ [11, 12, 13, 14, 15, 16, 17, 18, 19, 10, 20, 21, 22, 23, 24, 25, 26, 27, 28, 29, 30, 31, 32, 33, 34, 35, 36, 37, 38, 39, 40, 41, 42, 43, 44, 45, 46, 47, 48, 49, 50, 51, 52, 53, 54, 55, 56, 57, 58, 59, 60, 61, 62, 63, 64, 72, 73, 74, 75, 76, 77, 78, 79, 80, 81, 82, 83] rfl (by decide +kernel)
set_option maxRecDepth 20000 in
theorem gX9_touches_X3_isFelt : GoodIn wsX9_touches (wsV RX9 156 RX3 yX3_isFelt wsX3_isFelt) := goodIn_app (goodIn_r _ [7, 8, 9, 10] rfl (by decide +kernel)) ggX9_touches_X3_isFelt
set_option maxRecDepth 20000 in
theorem ggX9_minds_X9_isIndex : GoodIn wsX9_minds wsX9_isIndex := goodIn_r _ [6] rfl (by decide +kernel)
set_option maxRecDepth 20000 in
theorem gX9_minds_X9_isIndex : GoodIn wsX9_minds (va_wsS RX9 58 yX9_isIndex wsX9_isIndex) := goodIn_app (goodIn_r _ [3, 4, 5] rfl (by decide +kernel)) ggX9_minds_X9_isIndex
set_option maxRecDepth 20000 in
theorem ggX9_minds_X3_isOrderFelt : GoodIn wsX9_minds wsX3_isOrderFelt := goodIn_r _ [11, 12, 13, 14, 15, 16, 10, 17, 18, 19, 20, 21, 22, 23, 24, 25, 26, 27, 28, 29, 30, 31, 32, 33, 34, 35, 36, 37, 38, 39, 40, 41, 42, 43, 44, 45, 46, 47, 48, 49, 50, 51, 52, 53, 54, 55, 56, 57, 58, 59, 60, 61, 62, 63, 64, 72, 73, 74, 75, 76, 77, 78, 79, 80, 81, 82, 83] rfl (by decide +kernel)
set_option maxRecDepth 20000 in
theorem gX9_minds_X3_isOrderFelt : GoodIn wsX9_minds (wsV RX9 160 RX3 yX3_isOrderFelt wsX3_isOrderFelt) := goodIn_app (goodIn_r _ [7, 8, 9, 10] rfl (by decide +kernel)) ggX9_minds_X3_isOrderFelt
set_option maxRecDepth 20000 in
theorem ggX9_place_X9_isIndex : GoodIn wsX9_place wsX9_isIndex := goodIn_r _ [6] rfl (by decide +kernel)
set_option maxRecDepth 20000 in
theorem gX9_place_X9_isIndex : GoodIn wsX9_place (va_wsS RX9 58 yX9_isIndex wsX9_isIndex) := goodIn_app (goodIn_r _ [3, 4, 5] rfl (by decide +kernel)) ggX9_place_X9_isIndex
set_option maxRecDepth 20000 in
theorem ggX9_place_X5_append : GoodIn wsX9_place wsX5_append := goodIn_r _ [11, 12, 13, 14, 15, 16, 17, 18, 19, 10, 20, 21, 22, 23, 24, 25, 26, 27, 28, 36, 37, 38, 39, 40, 41, 42, 43, 44, 45] rfl (by decide +kernel)
set_option maxRecDepth 20000 in
theorem gX9_place_X5_append : GoodIn wsX9_place (wsV RX9 164 RX5 yX5_append wsX5_append) := goodIn_app (goodIn_r _ [7, 8, 9, 10] rfl (by decide +kernel)) ggX9_place_X5_append
set_option maxRecDepth 20000 in
theorem ggX9_done_X9_isIndex : GoodIn wsX9_done wsX9_isIndex := goodIn_r _ [8] rfl (by decide +kernel)
set_option maxRecDepth 20000 in
theorem gX9_done_X9_isIndex : GoodIn wsX9_done (va_wsS RX9 58 yX9_isIndex wsX9_isIndex) := goodIn_app (goodIn_r _ [5, 6, 7] rfl (by decide +kernel)) ggX9_done_X9_isIndex
set_option maxRecDepth 20000 in
theorem ggX9_moves_X9_isIndex : GoodIn wsX9_moves wsX9_isIndex := goodIn_r _ [7] rfl (by decide +kernel)
set_option maxRecDepth 20000 in
theorem gX9_moves_X9_isIndex : GoodIn wsX9_moves (va_wsS RX9 58 yX9_isIndex wsX9_isIndex) := goodIn_app (goodIn_r _ [4, 5, 6] rfl (by decide +kernel)) ggX9_moves_X9_isIndex
set_option maxRecDepth 20000 in
theorem ggX9_least_X5_plan : GoodIn wsX9_least wsX5_plan := goodIn_r _ [7, 8, 9, 10, 11, 12, 13, 6, 14, 15, 16, 17, 18, 19, 20, 21, 22, 23, 24, 25, 26, 27, 28, 29, 30, 31, 32, 33, 34, 35, 36, 37, 38, 39, 40, 41, 42, 43, 44, 45, 46, 47, 48, 49, 57, 58, 59, 60, 61, 62, 63, 64, 65, 66] rfl (by decide +kernel)
set_option maxRecDepth 20000 in
theorem gX9_least_X5_plan : GoodIn wsX9_least (wsV RX9 177 RX5 yX5_plan wsX5_plan) := goodIn_app (goodIn_r _ [3, 4, 5, 6] rfl (by decide +kernel)) ggX9_least_X5_plan
set_option maxRecDepth 20000 in
theorem ggX9_order_X5_plan : GoodIn wsX9_order wsX5_plan := goodIn_r _ [8, 9, 10, 11, 12, 13, 14, 7, 15, 16, 17, 18, 19, 20, 21, 22, 23, 24, 25, 26, 27, 28, 29, 30, 31, 32, 33, 34, 35, 36, 37, 38, 39, 40, 41, 42, 43, 44, 45, 46, 47, 48, 49, 50, 58, 59, 60, 61, 62, 63, 64, 65, 66, 67] rfl (by decide +kernel)
set_option maxRecDepth 20000 in
theorem gX9_order_X5_plan : GoodIn wsX9_order (wsV RX9 177 RX5 yX5_plan wsX5_plan) := goodIn_app (goodIn_r _ [4, 5, 6, 7] rfl (by decide +kernel)) ggX9_order_X5_plan
set_option maxRecDepth 20000 in
theorem ggX9_rule_X6_startAnew : GoodIn wsX9_rule wsX6_startAnew := goodIn_r _ [12, 13, 14, 15, 23, 24, 25, 26, 27, 28, 29, 30] rfl (by decide +kernel)
set_option maxRecDepth 20000 in
theorem gX9_rule_X6_startAnew : GoodIn wsX9_rule (wsV RX9 202 RX6 yX6_startAnew wsX6_startAnew) := goodIn_app (goodIn_r _ [8, 9, 10, 11] rfl (by decide +kernel)) ggX9_rule_X6_startAnew
set_option maxRecDepth 20000 in
theorem ggX9_come_X9_areReadings : GoodIn wsX9_come wsX9_areReadings := goodIn_r _ [6, 7, 8, 9, 5, 10] rfl (by decide +kernel)
set_option maxRecDepth 20000 in
theorem gX9_come_X9_areReadings : GoodIn wsX9_come (va_wsS RX9 81 yX9_areReadings wsX9_areReadings) := goodIn_app (goodIn_r _ [3, 4, 5] rfl (by decide +kernel)) ggX9_come_X9_areReadings
set_option maxRecDepth 20000 in
theorem ggX9_come_X6_take : GoodIn wsX9_come wsX6_take := goodIn_r _ [15, 16, 17, 18, 19, 20, 21, 5, 22, 23, 24, 25, 14, 26, 27, 28, 29, 30, 31, 32, 33, 34, 35, 36, 37, 38, 39, 40, 41, 42, 43, 44, 45, 46, 47, 48, 49, 50, 51, 52, 53, 54, 55, 56, 57, 65, 66, 67, 68, 69, 70, 71, 72] rfl (by decide +kernel)
set_option maxRecDepth 20000 in
theorem gX9_come_X6_take : GoodIn wsX9_come (wsV RX9 208 RX6 yX6_take wsX6_take) := goodIn_app (goodIn_r _ [11, 12, 13, 14] rfl (by decide +kernel)) ggX9_come_X6_take
set_option maxRecDepth 20000 in
theorem ggX9_settled_X6_sumOfLatest : GoodIn wsX9_settled wsX6_sumOfLatest := goodIn_r _ [9, 10, 11, 12, 13, 8, 14, 15, 16, 17, 18, 19, 20, 28, 29, 30, 31, 32, 33, 34, 35] rfl (by decide +kernel)
set_option maxRecDepth 20000 in
theorem gX9_settled_X6_sumOfLatest : GoodIn wsX9_settled (wsV RX9 218 RX6 yX6_sumOfLatest wsX6_sumOfLatest) := goodIn_app (goodIn_r _ [5, 6, 7, 8] rfl (by decide +kernel)) ggX9_settled_X6_sumOfLatest
set_option maxRecDepth 20000 in
theorem ggX9_anew_X6_startAnew : GoodIn wsX9_anew wsX6_startAnew := goodIn_r _ [7, 8, 9, 10, 18, 19, 20, 21, 22, 23, 24, 25] rfl (by decide +kernel)
set_option maxRecDepth 20000 in
theorem gX9_anew_X6_startAnew : GoodIn wsX9_anew (wsV RX9 202 RX6 yX6_startAnew wsX6_startAnew) := goodIn_app (goodIn_r _ [3, 4, 5, 6] rfl (by decide +kernel)) ggX9_anew_X6_startAnew
set_option maxRecDepth 20000 in
theorem ggX9_tube_X8_append : GoodIn wsX9_tube wsX8_append := goodIn_r _ [7, 8, 9, 10, 11, 19, 20, 21, 22] rfl (by decide +kernel)
set_option maxRecDepth 20000 in
theorem gX9_tube_X8_append : GoodIn wsX9_tube (wsV RX9 223 RX8 yX8_append wsX8_append) := goodIn_app (goodIn_r _ [3, 4, 5, 6] rfl (by decide +kernel)) ggX9_tube_X8_append
set_option maxRecDepth 20000 in
theorem ggX9_press_X9_isIndex : GoodIn wsX9_press wsX9_isIndex := goodIn_r _ [8] rfl (by decide +kernel)
set_option maxRecDepth 20000 in
theorem gX9_press_X9_isIndex : GoodIn wsX9_press (va_wsS RX9 58 yX9_isIndex wsX9_isIndex) := goodIn_app (goodIn_r _ [5, 6, 7] rfl (by decide +kernel)) ggX9_press_X9_isIndex
set_option maxRecDepth 20000 in
theorem ggX9_press_X8_isPressure : GoodIn wsX9_press wsX8_isPressure := goodIn_r _ [12, 13, 7, 14] rfl (by decide +kernel)
set_option maxRecDepth 20000 in
theorem gX9_press_X8_isPressure : GoodIn wsX9_press (va_wsS RX9 225 yX8_isPressure wsX8_isPressure) := goodIn_app (goodIn_r _ [9, 10, 11] rfl (by decide +kernel)) ggX9_press_X8_isPressure
set_option maxRecDepth 20000 in
theorem ggX9_sheet_X9_isIndex : GoodIn wsX9_sheet wsX9_isIndex := goodIn_r _ [5] rfl (by decide +kernel)
set_option maxRecDepth 20000 in
theorem gX9_sheet_X9_isIndex : GoodIn wsX9_sheet (va_wsS RX9 58 yX9_isIndex wsX9_isIndex) := goodIn_app (goodIn_r _ [2, 3, 4] rfl (by decide +kernel)) ggX9_sheet_X9_isIndex
set_option maxRecDepth 20000 in
theorem ggX9_sheet_X9_answerOfFault : GoodIn wsX9_sheet wsX9_answerOfFault := goodIn_r _ [8] rfl (by decide +kernel)
set_option maxRecDepth 20000 in
theorem gX9_sheet_X9_answerOfFault : GoodIn wsX9_sheet (va_wsS RX9 234 yX9_answerOfFault wsX9_answerOfFault) := goodIn_app (goodIn_r _ [6, 7, 4] rfl (by decide +kernel)) ggX9_sheet_X9_answerOfFault
set_option maxRecDepth 20000 in
theorem ggX9_sheet_X7_makeNew : GoodIn wsX9_sheet wsX7_makeNew := goodIn_r _ [13, 14, 15, 16, 24, 25, 26] rfl (by decide +kernel)
set_option maxRecDepth 20000 in
theorem gX9_sheet_X7_makeNew : GoodIn wsX9_sheet (wsV RX9 237 RX7 yX7_makeNew wsX7_makeNew) := goodIn_app (goodIn_r _ [9, 10, 11, 12] rfl (by decide +kernel)) ggX9_sheet_X7_makeNew
set_option maxRecDepth 20000 in
theorem ggX9_lay_X9_isIndex : GoodIn wsX9_lay wsX9_isIndex := goodIn_r _ [5] rfl (by decide +kernel)
set_option maxRecDepth 20000 in
theorem gX9_lay_X9_isIndex : GoodIn wsX9_lay (va_wsS RX9 58 yX9_isIndex wsX9_isIndex) := goodIn_app (goodIn_r _ [2, 3, 4] rfl (by decide +kernel)) ggX9_lay_X9_isIndex
set_option maxRecDepth 20000 in
theorem ggX9_lay_X7_faultOfCells : GoodIn wsX9_lay wsX7_faultOfCells := goodIn_r _ [10, 11, 12, 28, 29, 30] rfl (by decide +kernel)
set_option maxRecDepth 20000 in
theorem gX9_lay_X7_faultOfCells : GoodIn wsX9_lay (wsV RX9 241 RX7 yX7_faultOfCells wsX7_faultOfCells) := goodIn_app (goodIn_r _ [6, 7, 8, 9] rfl (by decide +kernel)) ggX9_lay_X7_faultOfCells
set_option maxRecDepth 20000 in
theorem ggX9_lay_X9_answerOfFault : GoodIn wsX9_lay wsX9_answerOfFault := goodIn_r _ [15] rfl (by decide +kernel)
set_option maxRecDepth 20000 in
theorem gX9_lay_X9_answerOfFault : GoodIn wsX9_lay (va_wsS RX9 234 yX9_answerOfFault wsX9_answerOfFault) := goodIn_app (goodIn_r _ [13, 14, 4] rfl (by decide +kernel)) ggX9_lay_X9_answerOfFault
set_option maxRecDepth 20000 in
theorem ggX9_lay_X7_set : GoodIn wsX9_lay wsX7_set := goodIn_r _ [19, 11, 20, 28, 29, 30] rfl (by decide +kernel)
set_option maxRecDepth 20000 in
theorem gX9_lay_X7_set : GoodIn wsX9_lay (wsV RX9 244 RX7 yX7_set wsX7_set) := goodIn_app (goodIn_r _ [16, 17, 18, 9] rfl (by decide +kernel)) ggX9_lay_X7_set
set_option maxRecDepth 20000 in
theorem ggX9_scan_X9_isIndex : GoodIn wsX9_scan wsX9_isIndex := goodIn_r _ [7] rfl (by decide +kernel)
set_option maxRecDepth 20000 in
theorem gX9_scan_X9_isIndex : GoodIn wsX9_scan (va_wsS RX9 58 yX9_isIndex wsX9_isIndex) := goodIn_app (goodIn_r _ [4, 5, 6] rfl (by decide +kernel)) ggX9_scan_X9_isIndex
set_option maxRecDepth 20000 in
theorem ggX9_scan_X7_faultOfLane : GoodIn wsX9_scan wsX7_faultOfLane := goodIn_r _ [12, 13, 55, 56, 57] rfl (by decide +kernel)
set_option maxRecDepth 20000 in
theorem gX9_scan_X7_faultOfLane : GoodIn wsX9_scan (wsV RX9 247 RX7 yX7_faultOfLane wsX7_faultOfLane) := goodIn_app (goodIn_r _ [8, 9, 10, 11] rfl (by decide +kernel)) ggX9_scan_X7_faultOfLane
set_option maxRecDepth 20000 in
theorem ggX9_scan_X7_faultOfCells : GoodIn wsX9_scan wsX7_faultOfCells := goodIn_r _ [17, 13, 18, 55, 56, 57] rfl (by decide +kernel)
set_option maxRecDepth 20000 in
theorem gX9_scan_X7_faultOfCells : GoodIn wsX9_scan (wsV RX9 241 RX7 yX7_faultOfCells wsX7_faultOfCells) := goodIn_app (goodIn_r _ [14, 15, 16, 11] rfl (by decide +kernel)) ggX9_scan_X7_faultOfCells
set_option maxRecDepth 20000 in
theorem ggX9_scan_X9_answerOfFault : GoodIn wsX9_scan wsX9_answerOfFault := goodIn_r _ [21] rfl (by decide +kernel)
set_option maxRecDepth 20000 in
theorem gX9_scan_X9_answerOfFault : GoodIn wsX9_scan (va_wsS RX9 234 yX9_answerOfFault wsX9_answerOfFault) := goodIn_app (goodIn_r _ [19, 20, 6] rfl (by decide +kernel)) ggX9_scan_X9_answerOfFault
set_option maxRecDepth 20000 in
theorem ggX9_scan_X8_takeFrom : GoodIn wsX9_scan wsX8_takeFrom := goodIn_r _ [26, 27, 28, 29, 30, 31, 32, 11, 33, 34, 35, 36, 25, 37, 38, 6, 39, 51, 52, 53, 54, 55, 56, 57] rfl (by decide +kernel)
set_option maxRecDepth 20000 in
theorem gX9_scan_X8_takeFrom : GoodIn wsX9_scan (wsV RX9 250 RX8 yX8_takeFrom wsX8_takeFrom) := goodIn_app (goodIn_r _ [22, 23, 24, 25] rfl (by decide +kernel)) ggX9_scan_X8_takeFrom
set_option maxRecDepth 20000 in
theorem ggX9_scan_X8_howManyLost : GoodIn wsX9_scan wsX8_howManyLost := goodIn_r _ [43, 27, 28, 51, 52, 53, 54] rfl (by decide +kernel)
set_option maxRecDepth 20000 in
theorem gX9_scan_X8_howManyLost : GoodIn wsX9_scan (wsV RX9 254 RX8 yX8_howManyLost wsX8_howManyLost) := goodIn_app (goodIn_r _ [40, 41, 42, 25] rfl (by decide +kernel)) ggX9_scan_X8_howManyLost
set_option maxRecDepth 20000 in
theorem ggX9_force_X8_sum : GoodIn wsX9_force wsX8_sum := goodIn_r _ [6, 7, 8, 9, 17, 18, 19, 20] rfl (by decide +kernel)
set_option maxRecDepth 20000 in
theorem gX9_force_X8_sum : GoodIn wsX9_force (wsV RX9 258 RX8 yX8_sum wsX8_sum) := goodIn_app (goodIn_r _ [2, 3, 4, 5] rfl (by decide +kernel)) ggX9_force_X8_sum
set_option maxRecDepth 20000 in
theorem ggX9_check_X9_isWithin : GoodIn wsX9_check wsX9_isWithin := goodIn_r _ [7] rfl (by decide +kernel)
set_option maxRecDepth 20000 in
theorem gX9_check_X9_isWithin : GoodIn wsX9_check (va_wsS RX9 62 yX9_isWithin wsX9_isWithin) := goodIn_app (goodIn_r _ [4, 5, 6] rfl (by decide +kernel)) ggX9_check_X9_isWithin
set_option maxRecDepth 20000 in
theorem ggX9_check_X8_howManyLost : GoodIn wsX9_check wsX8_howManyLost := goodIn_r _ [12, 13, 14, 50, 51, 52, 53] rfl (by decide +kernel)
set_option maxRecDepth 20000 in
theorem gX9_check_X8_howManyLost : GoodIn wsX9_check (wsV RX9 254 RX8 yX8_howManyLost wsX8_howManyLost) := goodIn_app (goodIn_r _ [8, 9, 10, 11] rfl (by decide +kernel)) ggX9_check_X8_howManyLost
set_option maxRecDepth 20000 in
theorem ggX9_check_X8_compare : GoodIn wsX9_check wsX8_compare := goodIn_r _ [18, 19, 20, 21, 22, 13, 23, 24, 25, 11, 26, 27, 28, 29, 30, 31, 32, 33, 34, 35, 36, 37, 38, 39, 40, 41, 42, 50, 51, 52, 53] rfl (by decide +kernel)
set_option maxRecDepth 20000 in
theorem gX9_check_X8_compare : GoodIn wsX9_check (wsV RX9 261 RX8 yX8_compare wsX8_compare) := goodIn_app (goodIn_r _ [15, 16, 17, 11] rfl (by decide +kernel)) ggX9_check_X8_compare
set_option maxRecDepth 20000 in
theorem ggX9_fill_X9_isWithin : GoodIn wsX9_fill wsX9_isWithin := goodIn_r _ [6] rfl (by decide +kernel)
set_option maxRecDepth 20000 in
theorem gX9_fill_X9_isWithin : GoodIn wsX9_fill (va_wsS RX9 62 yX9_isWithin wsX9_isWithin) := goodIn_app (goodIn_r _ [3, 4, 5] rfl (by decide +kernel)) ggX9_fill_X9_isWithin
set_option maxRecDepth 20000 in
theorem ggX9_fill_X8_howManyLost : GoodIn wsX9_fill wsX8_howManyLost := goodIn_r _ [11, 12, 13, 38, 39, 40, 41] rfl (by decide +kernel)
set_option maxRecDepth 20000 in
theorem gX9_fill_X8_howManyLost : GoodIn wsX9_fill (wsV RX9 254 RX8 yX8_howManyLost wsX8_howManyLost) := goodIn_app (goodIn_r _ [7, 8, 9, 10] rfl (by decide +kernel)) ggX9_fill_X8_howManyLost
set_option maxRecDepth 20000 in
theorem ggX9_fill_X8_pressureOfLost : GoodIn wsX9_fill wsX8_pressureOfLost := goodIn_r _ [17, 12, 13, 18, 19, 20, 21, 10, 22, 23, 24, 25, 26, 27, 28, 29, 30, 4, 5, 6, 38, 39, 40, 41] rfl (by decide +kernel)
set_option maxRecDepth 20000 in
theorem gX9_fill_X8_pressureOfLost : GoodIn wsX9_fill (wsV RX9 264 RX8 yX8_pressureOfLost wsX8_pressureOfLost) := goodIn_app (goodIn_r _ [14, 15, 16, 10] rfl (by decide +kernel)) ggX9_fill_X8_pressureOfLost
set_option maxRecDepth 20000 in
theorem ggX9_count_X5_howManyDone : GoodIn wsX9_count wsX5_howManyDone := goodIn_r _ [13, 14, 15, 41, 42, 43, 44, 45, 46, 47, 48, 49, 50] rfl (by decide +kernel)
set_option maxRecDepth 20000 in
theorem gX9_count_X5_howManyDone : GoodIn wsX9_count (wsV RX9 267 RX5 yX5_howManyDone wsX5_howManyDone) := goodIn_app (goodIn_r _ [9, 10, 11, 12] rfl (by decide +kernel)) ggX9_count_X5_howManyDone
set_option maxRecDepth 20000 in
theorem ggX9_count_X8_howManyLost : GoodIn wsX9_count wsX8_howManyLost := goodIn_r _ [20, 21, 22, 51, 52, 53, 54] rfl (by decide +kernel)
set_option maxRecDepth 20000 in
theorem gX9_count_X8_howManyLost : GoodIn wsX9_count (wsV RX9 254 RX8 yX8_howManyLost wsX8_howManyLost) := goodIn_app (goodIn_r _ [16, 17, 18, 19] rfl (by decide +kernel)) ggX9_count_X8_howManyLost
set_option maxRecDepth 20000 in
theorem ggX9_areLoads_X9_isWithin : GoodIn wsX9_areLoads wsX9_isWithin := goodIn_r _ [4] rfl (by decide +kernel)
set_option maxRecDepth 20000 in
theorem gX9_areLoads_X9_isWithin : GoodIn wsX9_areLoads (va_wsS RX9 62 yX9_isWithin wsX9_isWithin) := goodIn_app (goodIn_r _ [1, 2, 3] rfl (by decide +kernel)) ggX9_areLoads_X9_isWithin
set_option maxRecDepth 20000 in
theorem ggX9_areReadings_X9_isWithin : GoodIn wsX9_areReadings wsX9_isWithin := goodIn_r _ [5] rfl (by decide +kernel)
set_option maxRecDepth 20000 in
theorem gX9_areReadings_X9_isWithin : GoodIn wsX9_areReadings (va_wsS RX9 62 yX9_isWithin wsX9_isWithin) := goodIn_app (goodIn_r _ [2, 3, 4] rfl (by decide +kernel)) ggX9_areReadings_X9_isWithin
set_option maxRecDepth 20000 in
theorem ggX10_isReading_X10_in : GoodIn wsX10_isReading wsX10_in := goodIn_r _ [6] rfl (by decide +kernel)
set_option maxRecDepth 20000 in
theorem gX10_isReading_X10_in : GoodIn wsX10_isReading (va_wsS RX10 114 yX10_in wsX10_in) := goodIn_app (goodIn_r _ [3, 4, 5] rfl (by decide +kernel)) ggX10_isReading_X10_in
set_option maxRecDepth 20000 in
theorem ggX10_isLoad_X10_in : GoodIn wsX10_isLoad wsX10_in := goodIn_r _ [6] rfl (by decide +kernel)
set_option maxRecDepth 20000 in
theorem gX10_isLoad_X10_in : GoodIn wsX10_isLoad (va_wsS RX10 114 yX10_in wsX10_in) := goodIn_app (goodIn_r _ [3, 4, 5] rfl (by decide +kernel)) ggX10_isLoad_X10_in
set_option maxRecDepth 20000 in
theorem ggX10_first_X10_in : GoodIn wsX10_first wsX10_in := goodIn_r _ [8] rfl (by decide +kernel)
set_option maxRecDepth 20000 in
theorem gX10_first_X10_in : GoodIn wsX10_first (va_wsS RX10 114 yX10_in wsX10_in) := goodIn_app (goodIn_r _ [5, 6, 7] rfl (by decide +kernel)) ggX10_first_X10_in
set_option maxRecDepth 20000 in
theorem ggX10_second_X10_in : GoodIn wsX10_second wsX10_in := goodIn_r _ [9] rfl (by decide +kernel)
set_option maxRecDepth 20000 in
theorem gX10_second_X10_in : GoodIn wsX10_second (va_wsS RX10 114 yX10_in wsX10_in) := goodIn_app (goodIn_r _ [6, 7, 8] rfl (by decide +kernel)) ggX10_second_X10_in
set_option maxRecDepth 20000 in
theorem ggX10_readingOf_X10_products : GoodIn wsX10_readingOf wsX10_products := goodIn_r _ [6, 7, 8, 9, 10, 11, 12, 13, 14, 15, 16, 17, 18, 19, 20, 21, 22, 23, 24, 25, 26, 27, 28, 29, 30, 31, 32, 33, 34, 35, 36, 37, 38, 39, 40, 41, 42, 43, 44, 45, 46, 47, 48, 49] rfl (by decide +kernel)
set_option maxRecDepth 20000 in
theorem gX10_readingOf_X10_products : GoodIn wsX10_readingOf (wsV RX10 134 RX10 yX10_products wsX10_products) := goodIn_app (goodIn_r _ [2, 3, 4, 5] rfl (by decide +kernel)) ggX10_readingOf_X10_products
set_option maxRecDepth 20000 in
theorem ggX10_reading_X10_in : GoodIn wsX10_reading wsX10_in := goodIn_r _ [6] rfl (by decide +kernel)
set_option maxRecDepth 20000 in
theorem gX10_reading_X10_in : GoodIn wsX10_reading (va_wsS RX10 114 yX10_in wsX10_in) := goodIn_app (goodIn_r _ [3, 4, 5] rfl (by decide +kernel)) ggX10_reading_X10_in
set_option maxRecDepth 20000 in
theorem ggX10_reading_X10_isLoad : GoodIn wsX10_reading wsX10_isLoad := goodIn_r _ [9, 10, 11, 3, 4, 5, 6] rfl (by decide +kernel)
set_option maxRecDepth 20000 in
theorem gX10_reading_X10_isLoad : GoodIn wsX10_reading (va_wsS RX10 138 yX10_isLoad wsX10_isLoad) := goodIn_app (goodIn_r _ [7, 8, 5] rfl (by decide +kernel)) ggX10_reading_X10_isLoad
set_option maxRecDepth 20000 in
theorem ggX10_reading_X10_readingOf : GoodIn wsX10_reading wsX10_readingOf := goodIn_r _ [15, 16, 17, 18, 19, 5, 20, 21, 22, 23, 24, 25, 26, 27, 28, 29, 30, 31, 32, 33, 34, 35, 36, 37, 38, 39, 40, 41, 42, 43, 44, 45, 46, 47, 48, 49, 50, 51, 52, 53, 54, 55, 56, 57, 58, 59, 60, 61, 62, 63] rfl (by decide +kernel)
set_option maxRecDepth 20000 in
theorem gX10_reading_X10_readingOf : GoodIn wsX10_reading (wsV RX10 142 RX10 yX10_readingOf wsX10_readingOf) := goodIn_app (goodIn_r _ [12, 13, 14, 5] rfl (by decide +kernel)) ggX10_reading_X10_readingOf
set_option maxRecDepth 20000 in
theorem ggX10_replaced_X10_determinant : GoodIn wsX10_replaced wsX10_determinant := goodIn_r _ [7, 1, 8, 9, 10, 11, 12, 13, 14, 15, 16, 17, 18, 19, 20, 21, 22, 23, 24, 25, 26, 27, 28, 29, 30, 31, 32, 33, 34, 35, 36, 37, 38, 39, 40, 41, 42, 43, 44, 45, 46, 47, 48, 49] rfl (by decide +kernel)
set_option maxRecDepth 20000 in
theorem gX10_replaced_X10_determinant : GoodIn wsX10_replaced (wsV RX10 146 RX10 yX10_determinant wsX10_determinant) := goodIn_app (goodIn_r _ [3, 4, 5, 6] rfl (by decide +kernel)) ggX10_replaced_X10_determinant
set_option maxRecDepth 20000 in
theorem ggX10_back_X10_isReading : GoodIn wsX10_back wsX10_isReading := goodIn_r _ [11, 12, 13, 14, 15, 10, 16] rfl (by decide +kernel)
set_option maxRecDepth 20000 in
theorem gX10_back_X10_isReading : GoodIn wsX10_back (va_wsS RX10 150 yX10_isReading wsX10_isReading) := goodIn_app (goodIn_r _ [8, 9, 10] rfl (by decide +kernel)) ggX10_back_X10_isReading
set_option maxRecDepth 20000 in
theorem ggX10_back_X10_in : GoodIn wsX10_back wsX10_in := goodIn_r _ [16] rfl (by decide +kernel)
set_option maxRecDepth 20000 in
theorem gX10_back_X10_in : GoodIn wsX10_back (va_wsS RX10 114 yX10_in wsX10_in) := goodIn_app (goodIn_r _ [14, 15, 10] rfl (by decide +kernel)) ggX10_back_X10_in
set_option maxRecDepth 20000 in
theorem ggX10_back_X10_determinant : GoodIn wsX10_back wsX10_determinant := goodIn_r _ [20, 2, 43, 44, 45, 46, 47, 48, 49, 50, 51, 52, 53, 54, 55, 56, 57, 58, 59, 60, 61, 62, 63, 64, 65, 66, 67, 68, 69, 70, 71, 72, 73, 74, 75, 76, 77, 78, 79, 80, 81, 82, 83, 84] rfl (by decide +kernel)
set_option maxRecDepth 20000 in
theorem gX10_back_X10_determinant : GoodIn wsX10_back (wsV RX10 146 RX10 yX10_determinant wsX10_determinant) := goodIn_app (goodIn_r _ [17, 18, 19, 10] rfl (by decide +kernel)) ggX10_back_X10_determinant
set_option maxRecDepth 20000 in
theorem ggX10_back_X10_products : GoodIn wsX10_back wsX10_products := goodIn_r _ [24, 25, 43, 44, 45, 46, 47, 48, 49, 50, 51, 52, 53, 54, 55, 56, 57, 58, 59, 60, 61, 62, 63, 64, 65, 66, 67, 68, 69, 70, 71, 72, 73, 74, 75, 76, 77, 78, 79, 80, 81, 82, 83, 84] rfl (by decide +kernel)
set_option maxRecDepth 20000 in
theorem gX10_back_X10_products : GoodIn wsX10_back (wsV RX10 134 RX10 yX10_products wsX10_products) := goodIn_app (goodIn_r _ [21, 22, 23, 10] rfl (by decide +kernel)) ggX10_back_X10_products
set_option maxRecDepth 20000 in
theorem ggX10_back_X10_replaced : GoodIn wsX10_back wsX10_replaced := goodIn_r _ [29, 2, 6, 17, 18, 19, 10, 20, 43, 44, 45, 46, 47, 48, 49, 50, 51, 52, 53, 54, 55, 56, 57, 58, 59, 60, 61, 62, 63, 64, 65, 66, 67, 68, 69, 70, 71, 72, 73, 74, 75, 76, 77, 78, 79, 80, 81, 82, 83, 84] rfl (by decide +kernel)
set_option maxRecDepth 20000 in
theorem gX10_back_X10_replaced : GoodIn wsX10_back (wsV RX10 156 RX10 yX10_replaced wsX10_replaced) := goodIn_app (goodIn_r _ [26, 27, 28, 10] rfl (by decide +kernel)) ggX10_back_X10_replaced
set_option maxRecDepth 20000 in
theorem ggX10_back_X10_nearest : GoodIn wsX10_back wsX10_nearest := goodIn_r _ [32, 33, 34, 35, 1, 36, 37, 10, 38] rfl (by decide +kernel)
set_option maxRecDepth 20000 in
theorem gX10_back_X10_nearest : GoodIn wsX10_back (va_wsS RX10 160 yX10_nearest wsX10_nearest) := goodIn_app (goodIn_r _ [30, 31, 10] rfl (by decide +kernel)) ggX10_back_X10_nearest
set_option maxRecDepth 20000 in
theorem ggX10_back_X10_readingOf : GoodIn wsX10_back wsX10_readingOf := goodIn_r _ [42, 3, 21, 22, 23, 10, 24, 25, 43, 44, 45, 46, 47, 48, 49, 50, 51, 52, 53, 54, 55, 56, 57, 58, 59, 60, 61, 62, 63, 64, 65, 66, 67, 68, 69, 70, 71, 72, 73, 74, 75, 76, 77, 78, 79, 80, 81, 82, 83, 84] rfl (by decide +kernel)
set_option maxRecDepth 20000 in
theorem gX10_back_X10_readingOf : GoodIn wsX10_back (wsV RX10 142 RX10 yX10_readingOf wsX10_readingOf) := goodIn_app (goodIn_r _ [39, 40, 41, 10] rfl (by decide +kernel)) ggX10_back_X10_readingOf
set_option maxRecDepth 20000 in
theorem ggX10_nearest_X10_down : GoodIn wsX10_nearest wsX10_down := goodIn_r _ [8] rfl (by decide +kernel)
set_option maxRecDepth 20000 in
theorem gX10_nearest_X10_down : GoodIn wsX10_nearest (va_wsS RX10 167 yX10_down wsX10_down) := goodIn_app (goodIn_r _ [5, 6, 7] rfl (by decide +kernel)) ggX10_nearest_X10_down
set_option maxRecDepth 20000 in
theorem ggX10_found_X10_in : GoodIn wsX10_found wsX10_in := goodIn_r _ [8] rfl (by decide +kernel)
set_option maxRecDepth 20000 in
theorem gX10_found_X10_in : GoodIn wsX10_found (va_wsS RX10 114 yX10_in wsX10_in) := goodIn_app (goodIn_r _ [5, 6, 7] rfl (by decide +kernel)) ggX10_found_X10_in
set_option maxRecDepth 20000 in
theorem ggX10_point_X10_isLoad : GoodIn wsX10_point wsX10_isLoad := goodIn_r _ [7, 8, 9, 10, 11, 6, 12] rfl (by decide +kernel)
set_option maxRecDepth 20000 in
theorem gX10_point_X10_isLoad : GoodIn wsX10_point (va_wsS RX10 138 yX10_isLoad wsX10_isLoad) := goodIn_app (goodIn_r _ [4, 5, 6] rfl (by decide +kernel)) ggX10_point_X10_isLoad
set_option maxRecDepth 20000 in
theorem ggX10_point_X10_isReading : GoodIn wsX10_point wsX10_isReading := goodIn_r _ [15, 16, 17, 10, 11, 6, 12] rfl (by decide +kernel)
set_option maxRecDepth 20000 in
theorem gX10_point_X10_isReading : GoodIn wsX10_point (va_wsS RX10 150 yX10_isReading wsX10_isReading) := goodIn_app (goodIn_r _ [13, 14, 6] rfl (by decide +kernel)) ggX10_point_X10_isReading
set_option maxRecDepth 20000 in
theorem ggX10_fit_X10_in : GoodIn wsX10_fit wsX10_in := goodIn_r _ [12] rfl (by decide +kernel)
set_option maxRecDepth 20000 in
theorem gX10_fit_X10_in : GoodIn wsX10_fit (va_wsS RX10 114 yX10_in wsX10_in) := goodIn_app (goodIn_r _ [9, 10, 11] rfl (by decide +kernel)) ggX10_fit_X10_in
set_option maxRecDepth 20000 in
theorem ggX10_fit_X10_determinant : GoodIn wsX10_fit wsX10_determinant := goodIn_r _ [16, 4, 24, 25, 26, 27, 28, 29, 30, 31, 32, 33, 34, 35, 36, 37, 38, 39, 40, 41, 42, 43, 44, 45, 46, 47, 48, 49, 50, 51, 52, 53, 54, 55, 56, 57, 58, 59, 60, 61, 62, 63, 64, 65] rfl (by decide +kernel)
set_option maxRecDepth 20000 in
theorem gX10_fit_X10_determinant : GoodIn wsX10_fit (wsV RX10 146 RX10 yX10_determinant wsX10_determinant) := goodIn_app (goodIn_r _ [13, 14, 15, 11] rfl (by decide +kernel)) ggX10_fit_X10_determinant
set_option maxRecDepth 20000 in
theorem ggX10_fit_X10_replaced : GoodIn wsX10_fit wsX10_replaced := goodIn_r _ [20, 4, 3, 13, 14, 15, 11, 16, 24, 25, 26, 27, 28, 29, 30, 31, 32, 33, 34, 35, 36, 37, 38, 39, 40, 41, 42, 43, 44, 45, 46, 47, 48, 49, 50, 51, 52, 53, 54, 55, 56, 57, 58, 59, 60, 61, 62, 63, 64, 65] rfl (by decide +kernel)
set_option maxRecDepth 20000 in
theorem gX10_fit_X10_replaced : GoodIn wsX10_fit (wsV RX10 156 RX10 yX10_replaced wsX10_replaced) := goodIn_app (goodIn_r _ [17, 18, 19, 11] rfl (by decide +kernel)) ggX10_fit_X10_replaced
set_option maxRecDepth 20000 in
theorem ggX10_fit_X10_divisor : GoodIn wsX10_fit wsX10_divisor := goodIn_r _ [23] rfl (by decide +kernel)
set_option maxRecDepth 20000 in
theorem gX10_fit_X10_divisor : GoodIn wsX10_fit (va_wsS RX10 175 yX10_divisor wsX10_divisor) := goodIn_app (goodIn_r _ [21, 22, 11] rfl (by decide +kernel)) ggX10_fit_X10_divisor
set_option maxRecDepth 20000 in
theorem ggX10_miss_X10_in : GoodIn wsX10_miss wsX10_in := goodIn_r _ [8] rfl (by decide +kernel)
set_option maxRecDepth 20000 in
theorem gX10_miss_X10_in : GoodIn wsX10_miss (va_wsS RX10 114 yX10_in wsX10_in) := goodIn_app (goodIn_r _ [5, 6, 7] rfl (by decide +kernel)) ggX10_miss_X10_in
set_option maxRecDepth 20000 in
theorem ggX10_miss_X10_readingOf : GoodIn wsX10_miss wsX10_readingOf := goodIn_r _ [12, 13, 14, 15, 16, 7, 17, 18, 19, 20, 21, 22, 23, 24, 25, 26, 27, 28, 29, 30, 31, 32, 33, 34, 35, 36, 37, 38, 39, 40, 41, 42, 43, 44, 45, 46, 47, 48, 49, 50, 51, 52, 53, 54, 55, 56, 57, 58, 59, 60] rfl (by decide +kernel)
set_option maxRecDepth 20000 in
theorem gX10_miss_X10_readingOf : GoodIn wsX10_miss (wsV RX10 142 RX10 yX10_readingOf wsX10_readingOf) := goodIn_app (goodIn_r _ [9, 10, 11, 7] rfl (by decide +kernel)) ggX10_miss_X10_readingOf
set_option maxRecDepth 20000 in
theorem ggX10_isCorrection_X10_in : GoodIn wsX10_isCorrection wsX10_in := goodIn_r _ [5] rfl (by decide +kernel)
set_option maxRecDepth 20000 in
theorem gX10_isCorrection_X10_in : GoodIn wsX10_isCorrection (va_wsS RX10 114 yX10_in wsX10_in) := goodIn_app (goodIn_r _ [2, 3, 4] rfl (by decide +kernel)) ggX10_isCorrection_X10_in
set_option maxRecDepth 20000 in
theorem ggX10_correct_X10_in : GoodIn wsX10_correct wsX10_in := goodIn_r _ [15] rfl (by decide +kernel)
set_option maxRecDepth 20000 in
theorem gX10_correct_X10_in : GoodIn wsX10_correct (va_wsS RX10 114 yX10_in wsX10_in) := goodIn_app (goodIn_r _ [12, 13, 14] rfl (by decide +kernel)) ggX10_correct_X10_in
set_option maxRecDepth 20000 in
theorem ggX10_turn_X10_isCorrection : GoodIn wsX10_turn wsX10_isCorrection := goodIn_r _ [6, 7, 8, 9, 5, 10, 11, 12, 13, 14, 15, 16, 17, 18, 19, 20, 21, 22, 23, 24, 25, 26, 27, 28, 29, 30, 31, 32, 33, 34, 35, 36, 37, 38, 39, 40, 41, 42, 43, 44, 45, 46, 47, 48, 49, 50, 51, 52] rfl (by decide +kernel)
set_option maxRecDepth 20000 in
theorem gX10_turn_X10_isCorrection : GoodIn wsX10_turn (wsV RX10 191 RX10 yX10_isCorrection wsX10_isCorrection) := goodIn_app (goodIn_r _ [2, 3, 4, 5] rfl (by decide +kernel)) ggX10_turn_X10_isCorrection
set_option maxRecDepth 20000 in
theorem ggX10_swap_X10_isCorrection : GoodIn wsX10_swap wsX10_isCorrection := goodIn_r _ [10, 11, 12, 13, 9, 14, 15, 16, 17, 18, 19, 20, 21, 22, 23, 24, 25, 26, 27, 28, 29, 30, 31, 32, 33, 34, 35, 36, 37, 38, 39, 40, 41, 42, 43, 44, 45, 46, 47, 48, 49, 50, 51, 52, 53, 54, 55, 56] rfl (by decide +kernel)
set_option maxRecDepth 20000 in
theorem gX10_swap_X10_isCorrection : GoodIn wsX10_swap (wsV RX10 191 RX10 yX10_isCorrection wsX10_isCorrection) := goodIn_app (goodIn_r _ [6, 7, 8, 9] rfl (by decide +kernel)) ggX10_swap_X10_isCorrection
set_option maxRecDepth 20000 in
theorem ggX10_raw_X10_isReading : GoodIn wsX10_raw wsX10_isReading := goodIn_r _ [9, 10, 11, 12, 13, 8, 14] rfl (by decide +kernel)
set_option maxRecDepth 20000 in
theorem gX10_raw_X10_isReading : GoodIn wsX10_raw (va_wsS RX10 150 yX10_isReading wsX10_isReading) := goodIn_app (goodIn_r _ [6, 7, 8] rfl (by decide +kernel)) ggX10_raw_X10_isReading
set_option maxRecDepth 20000 in
theorem ggX10_raw_X10_in : GoodIn wsX10_raw wsX10_in := goodIn_r _ [14] rfl (by decide +kernel)
set_option maxRecDepth 20000 in
theorem gX10_raw_X10_in : GoodIn wsX10_raw (va_wsS RX10 114 yX10_in wsX10_in) := goodIn_app (goodIn_r _ [12, 13, 8] rfl (by decide +kernel)) ggX10_raw_X10_in
set_option maxRecDepth 20000 in
theorem ggX10_sine_X10_cosine : GoodIn wsX10_sine wsX10_cosine := goodIn_r _ [5, 6, 7, 8, 9, 10, 11, 12, 13, 14, 15, 16, 17, 18, 19, 20, 21, 22, 23, 24, 25, 26, 27, 28, 29, 30, 31, 32, 33, 34, 35, 36, 37, 38, 39, 40, 41, 42, 43, 44, 45, 46, 47, 48] rfl (by decide +kernel)
set_option maxRecDepth 20000 in
theorem gX10_sine_X10_cosine : GoodIn wsX10_sine (wsV RX10 204 RX10 yX10_cosine wsX10_cosine) := goodIn_app (goodIn_r _ [1, 2, 3, 4] rfl (by decide +kernel)) ggX10_sine_X10_cosine
set_option maxRecDepth 20000 in
theorem ggX10_does_X10_down : GoodIn wsX10_does wsX10_down := goodIn_r _ [14] rfl (by decide +kernel)
set_option maxRecDepth 20000 in
theorem gX10_does_X10_down : GoodIn wsX10_does (va_wsS RX10 167 yX10_down wsX10_down) := goodIn_app (goodIn_r _ [11, 12, 13] rfl (by decide +kernel)) ggX10_does_X10_down
set_option maxRecDepth 20000 in
theorem ggX10_does_X10_cosine : GoodIn wsX10_does wsX10_cosine := goodIn_r _ [18, 19, 24, 25, 26, 27, 28, 29, 30, 31, 32, 33, 34, 35, 36, 37, 38, 39, 40, 41, 42, 43, 44, 45, 46, 47, 48, 49, 50, 51, 52, 53, 54, 55, 56, 57, 58, 59, 60, 61, 62, 63, 64, 65] rfl (by decide +kernel)
set_option maxRecDepth 20000 in
theorem gX10_does_X10_cosine : GoodIn wsX10_does (wsV RX10 204 RX10 yX10_cosine wsX10_cosine) := goodIn_app (goodIn_r _ [15, 16, 17, 13] rfl (by decide +kernel)) ggX10_does_X10_cosine
set_option maxRecDepth 20000 in
theorem ggX10_does_X10_sine : GoodIn wsX10_does wsX10_sine := goodIn_r _ [23, 15, 16, 17, 13, 18, 19, 24, 25, 26, 27, 28, 29, 30, 31, 32, 33, 34, 35, 36, 37, 38, 39, 40, 41, 42, 43, 44, 45, 46, 47, 48, 49, 50, 51, 52, 53, 54, 55, 56, 57, 58, 59, 60, 61, 62, 63, 64, 65] rfl (by decide +kernel)
set_option maxRecDepth 20000 in
theorem gX10_does_X10_sine : GoodIn wsX10_does (wsV RX10 208 RX10 yX10_sine wsX10_sine) := goodIn_app (goodIn_r _ [20, 21, 22, 13] rfl (by decide +kernel)) ggX10_does_X10_sine
set_option maxRecDepth 20000 in
theorem ggX10_corrected_X10_in : GoodIn wsX10_corrected wsX10_in := goodIn_r _ [8] rfl (by decide +kernel)
set_option maxRecDepth 20000 in
theorem gX10_corrected_X10_in : GoodIn wsX10_corrected (va_wsS RX10 114 yX10_in wsX10_in) := goodIn_app (goodIn_r _ [5, 6, 7] rfl (by decide +kernel)) ggX10_corrected_X10_in
set_option maxRecDepth 20000 in
theorem ggX10_corrected_X10_begins : GoodIn wsX10_corrected wsX10_begins := goodIn_r _ [12, 4, 13, 38, 39, 40, 41, 42, 43, 44, 45, 46, 47, 48, 49, 50, 51, 52, 53, 54, 55, 56, 57, 58, 59, 60, 61, 62, 63, 64, 65, 66, 67, 68, 69, 70, 71, 72, 73, 74, 75, 76, 77, 78, 79] rfl (by decide +kernel)
set_option maxRecDepth 20000 in
theorem gX10_corrected_X10_begins : GoodIn wsX10_corrected (wsV RX10 211 RX10 yX10_begins wsX10_begins) := goodIn_app (goodIn_r _ [9, 10, 11, 7] rfl (by decide +kernel)) ggX10_corrected_X10_begins
set_option maxRecDepth 20000 in
theorem ggX10_corrected_X10_does : GoodIn wsX10_corrected wsX10_does := goodIn_r _ [17, 18, 19, 20, 21, 4, 22, 23, 24, 1, 25, 26, 27, 7, 28, 29, 30, 31, 32, 33, 34, 35, 36, 37, 38, 39, 40, 41, 42, 43, 44, 45, 46, 47, 48, 49, 50, 51, 52, 53, 54, 55, 56, 57, 58, 59, 60, 61, 62, 63, 64, 65, 66, 67, 68, 69, 70, 71, 72, 73, 74, 75, 76, 77, 78, 79] rfl (by decide +kernel)
set_option maxRecDepth 20000 in
theorem gX10_corrected_X10_does : GoodIn wsX10_corrected (wsV RX10 214 RX10 yX10_does wsX10_does) := goodIn_app (goodIn_r _ [14, 15, 16, 7] rfl (by decide +kernel)) ggX10_corrected_X10_does
set_option maxRecDepth 20000 in
theorem ggX10_tells_X10_corrected : GoodIn wsX10_tells wsX10_corrected := goodIn_r _ [7, 8, 1, 9, 10, 11, 12, 6, 13, 14, 15, 16, 17, 18, 19, 20, 21, 22, 23, 24, 25, 26, 27, 28, 29, 30, 31, 32, 33, 34, 35, 36, 37, 38, 39, 40, 41, 42, 43, 44, 45, 46, 47, 48, 49, 50, 51, 52, 53, 54, 55, 56, 57, 58, 59, 60, 61, 62, 63, 64, 65, 66, 67, 68, 69, 70, 71, 72, 73, 74, 75, 76, 77, 78, 79, 80, 81, 82, 83, 84] rfl (by decide +kernel)
set_option maxRecDepth 20000 in
theorem gX10_tells_X10_corrected : GoodIn wsX10_tells (wsV RX10 218 RX10 yX10_corrected wsX10_corrected) := goodIn_app (goodIn_r _ [3, 4, 5, 6] rfl (by decide +kernel)) ggX10_tells_X10_corrected
set_option maxRecDepth 20000 in
theorem ggX10_touches_X10_isCorrection : GoodIn wsX10_touches wsX10_isCorrection := goodIn_r _ [8, 2, 9, 10, 7, 11, 51, 52, 53, 54, 55, 56, 57, 58, 59, 60, 61, 62, 63, 64, 65, 66, 67, 68, 69, 70, 71, 72, 73, 74, 75, 76, 77, 78, 79, 80, 81, 82, 83, 84, 85, 86, 87, 88, 89, 90, 91, 92] rfl (by decide +kernel)
set_option maxRecDepth 20000 in
theorem gX10_touches_X10_isCorrection : GoodIn wsX10_touches (wsV RX10 191 RX10 yX10_isCorrection wsX10_isCorrection) := goodIn_app (goodIn_r _ [4, 5, 6, 7] rfl (by decide +kernel)) ggX10_touches_X10_isCorrection
set_option maxRecDepth 20000 in
theorem ggX10_touches_X10_tells : GoodIn wsX10_touches wsX10_tells := goodIn_r _ [15, 2, 3, 16, 17, 18, 7, 19, 20, 1, 21, 9, 10, 11, 22, 23, 24, 25, 26, 27, 28, 29, 30, 31, 32, 33, 34, 35, 36, 37, 38, 39, 40, 41, 42, 43, 44, 45, 46, 47, 48, 49, 50, 51, 52, 53, 54, 55, 56, 57, 58, 59, 60, 61, 62, 63, 64, 65, 66, 67, 68, 69, 70, 71, 72, 73, 74, 75, 76, 77, 78, 79, 80, 81, 82, 83, 84, 85, 86, 87, 88, 89, 90, 91, 92] rfl (by decide +kernel)
set_option maxRecDepth 20000 in
theorem gX10_touches_X10_tells : GoodIn wsX10_touches (wsV RX10 222 RX10 yX10_tells wsX10_tells) := goodIn_app (goodIn_r _ [12, 13, 14, 7] rfl (by decide +kernel)) ggX10_touches_X10_tells
set_option maxRecDepth 20000 in
theorem ggX10_touches_X10_corrected : GoodIn wsX10_touches wsX10_corrected := goodIn_r _ [19, 20, 2, 1, 21, 9, 10, 7, 11, 22, 23, 24, 25, 26, 27, 28, 29, 30, 31, 32, 33, 34, 35, 36, 37, 38, 39, 40, 41, 42, 43, 44, 45, 46, 47, 48, 49, 50, 51, 52, 53, 54, 55, 56, 57, 58, 59, 60, 61, 62, 63, 64, 65, 66, 67, 68, 69, 70, 71, 72, 73, 74, 75, 76, 77, 78, 79, 80, 81, 82, 83, 84, 85, 86, 87, 88, 89, 90, 91, 92] rfl (by decide +kernel)
set_option maxRecDepth 20000 in
theorem gX10_touches_X10_corrected : GoodIn wsX10_touches (wsV RX10 218 RX10 yX10_corrected wsX10_corrected) := goodIn_app (goodIn_r _ [16, 17, 18, 7] rfl (by decide +kernel)) ggX10_touches_X10_corrected
set_option maxRecDepth 20000 in
theorem ggX10_minds_X10_isCorrection : GoodIn wsX10_minds wsX10_isCorrection := goodIn_r _ [6, 7, 8, 9, 5, 10, 55, 56, 57, 58, 59, 60, 61, 62, 63, 64, 65, 66, 67, 68, 69, 70, 71, 72, 73, 74, 75, 76, 77, 78, 79, 80, 81, 82, 83, 84, 85, 86, 87, 88, 89, 90, 91, 92, 93, 94, 95, 96] rfl (by decide +kernel)
set_option maxRecDepth 20000 in
theorem gX10_minds_X10_isCorrection : GoodIn wsX10_minds (wsV RX10 191 RX10 yX10_isCorrection wsX10_isCorrection) := goodIn_app (goodIn_r _ [2, 3, 4, 5] rfl (by decide +kernel)) ggX10_minds_X10_isCorrection
set_option maxRecDepth 20000 in
theorem ggX10_minds_X10_tells : GoodIn wsX10_minds wsX10_tells := goodIn_r _ [14, 7, 1, 15, 16, 17, 5, 18, 19, 20, 21, 8, 9, 10, 22, 23, 24, 25, 26, 27, 28, 29, 30, 31, 32, 33, 34, 35, 36, 37, 38, 39, 40, 41, 42, 43, 44, 45, 46, 47, 48, 49, 50, 55, 56, 57, 58, 59, 60, 61, 62, 63, 64, 65, 66, 67, 68, 69, 70, 71, 72, 73, 74, 75, 76, 77, 78, 79, 80, 81, 82, 83, 84, 85, 86, 87, 88, 89, 90, 91, 92, 93, 94, 95, 96] rfl (by decide +kernel)
set_option maxRecDepth 20000 in
theorem gX10_minds_X10_tells : GoodIn wsX10_minds (wsV RX10 222 RX10 yX10_tells wsX10_tells) := goodIn_app (goodIn_r _ [11, 12, 13, 5] rfl (by decide +kernel)) ggX10_minds_X10_tells
set_option maxRecDepth 20000 in
theorem ggX10_minds_X10_swap : GoodIn wsX10_minds wsX10_swap := goodIn_r _ [54, 34, 31, 32, 33, 20, 2, 3, 4, 5, 6, 7, 8, 9, 10, 55, 56, 57, 58, 59, 60, 61, 62, 63, 64, 65, 66, 67, 68, 69, 70, 71, 72, 73, 74, 75, 76, 77, 78, 79, 80, 81, 82, 83, 84, 85, 86, 87, 88, 89, 90, 91, 92, 93, 94, 95, 96] rfl (by decide +kernel)
set_option maxRecDepth 20000 in
theorem gX10_minds_X10_swap : GoodIn wsX10_minds (wsV RX10 225 RX10 yX10_swap wsX10_swap) := goodIn_app (goodIn_r _ [51, 52, 53, 5] rfl (by decide +kernel)) ggX10_minds_X10_swap
set_option maxRecDepth 20000 in
theorem ggX10_minds_X10_corrected : GoodIn wsX10_minds wsX10_corrected := goodIn_r _ [18, 19, 7, 20, 21, 8, 9, 5, 10, 22, 23, 24, 25, 26, 27, 28, 29, 30, 31, 32, 33, 34, 35, 36, 37, 38, 39, 40, 41, 42, 43, 44, 45, 46, 47, 48, 49, 50, 55, 56, 57, 58, 59, 60, 61, 62, 63, 64, 65, 66, 67, 68, 69, 70, 71, 72, 73, 74, 75, 76, 77, 78, 79, 80, 81, 82, 83, 84, 85, 86, 87, 88, 89, 90, 91, 92, 93, 94, 95, 96] rfl (by decide +kernel)
set_option maxRecDepth 20000 in
theorem gX10_minds_X10_corrected : GoodIn wsX10_minds (wsV RX10 218 RX10 yX10_corrected wsX10_corrected) := goodIn_app (goodIn_r _ [15, 16, 17, 5] rfl (by decide +kernel)) ggX10_minds_X10_corrected
set_option maxRecDepth 20000 in
theorem ggX10_isPlace_X10_in : GoodIn wsX10_isPlace wsX10_in := goodIn_r _ [5] rfl (by decide +kernel)
set_option maxRecDepth 20000 in
theorem gX10_isPlace_X10_in : GoodIn wsX10_isPlace (va_wsS RX10 114 yX10_in wsX10_in) := goodIn_app (goodIn_r _ [2, 3, 4] rfl (by decide +kernel)) ggX10_isPlace_X10_in
set_option maxRecDepth 20000 in
theorem ggX10_place_X10_in : GoodIn wsX10_place wsX10_in := goodIn_r _ [10] rfl (by decide +kernel)
set_option maxRecDepth 20000 in
theorem gX10_place_X10_in : GoodIn wsX10_place (va_wsS RX10 114 yX10_in wsX10_in) := goodIn_app (goodIn_r _ [7, 8, 9] rfl (by decide +kernel)) ggX10_place_X10_in
set_option maxRecDepth 20000 in
theorem ggX10_done_X10_isPlace : GoodIn wsX10_done wsX10_isPlace := goodIn_r _ [6, 7, 8, 9, 5, 10, 11, 12, 13, 14, 15, 16, 17, 18, 19, 20, 21, 22, 23, 24, 25, 26, 27, 28, 29, 30, 31, 32, 33, 34, 35, 36, 37, 38, 39, 40, 41, 42, 43, 44, 45, 46, 47, 48, 49, 50, 51, 52] rfl (by decide +kernel)
set_option maxRecDepth 20000 in
theorem gX10_done_X10_isPlace : GoodIn wsX10_done (wsV RX10 233 RX10 yX10_isPlace wsX10_isPlace) := goodIn_app (goodIn_r _ [2, 3, 4, 5] rfl (by decide +kernel)) ggX10_done_X10_isPlace
set_option maxRecDepth 20000 in
theorem ggX10_moves_X10_isPlace : GoodIn wsX10_moves wsX10_isPlace := goodIn_r _ [7, 8, 9, 10, 6, 11, 16, 17, 18, 19, 20, 21, 22, 23, 24, 25, 26, 27, 28, 29, 30, 31, 32, 33, 34, 35, 36, 37, 38, 39, 40, 41, 42, 43, 44, 45, 46, 47, 48, 49, 50, 51, 52, 53, 54, 55, 56, 57] rfl (by decide +kernel)
set_option maxRecDepth 20000 in
theorem gX10_moves_X10_isPlace : GoodIn wsX10_moves (wsV RX10 233 RX10 yX10_isPlace wsX10_isPlace) := goodIn_app (goodIn_r _ [3, 4, 5, 6] rfl (by decide +kernel)) ggX10_moves_X10_isPlace
set_option maxRecDepth 20000 in
theorem ggX10_moves_X10_move : GoodIn wsX10_moves wsX10_move := goodIn_r _ [15, 1, 2, 16, 17, 18, 19, 20, 21, 22, 23, 24, 25, 26, 27, 28, 29, 30, 31, 32, 33, 34, 35, 36, 37, 38, 39, 40, 41, 42, 43, 44, 45, 46, 47, 48, 49, 50, 51, 52, 53, 54, 55, 56, 57] rfl (by decide +kernel)
set_option maxRecDepth 20000 in
theorem gX10_moves_X10_move : GoodIn wsX10_moves (wsV RX10 236 RX10 yX10_move wsX10_move) := goodIn_app (goodIn_r _ [12, 13, 14, 6] rfl (by decide +kernel)) ggX10_moves_X10_move
set_option maxRecDepth 20000 in
theorem ggX10_cost_X10_move : GoodIn wsX10_cost wsX10_move := goodIn_r _ [7, 1, 2, 8, 9, 10, 11, 12, 13, 14, 15, 16, 17, 18, 19, 20, 21, 22, 23, 24, 25, 26, 27, 28, 29, 30, 31, 32, 33, 34, 35, 36, 37, 38, 39, 40, 41, 42, 43, 44, 45, 46, 47, 48, 49] rfl (by decide +kernel)
set_option maxRecDepth 20000 in
theorem gX10_cost_X10_move : GoodIn wsX10_cost (wsV RX10 236 RX10 yX10_move wsX10_move) := goodIn_app (goodIn_r _ [3, 4, 5, 6] rfl (by decide +kernel)) ggX10_cost_X10_move
set_option maxRecDepth 20000 in
theorem ggX10_best_X10_cost : GoodIn wsX10_best wsX10_cost := goodIn_r _ [6, 7, 8, 9, 10, 11, 5, 12, 18, 19, 20, 21, 22, 23, 24, 25, 26, 27, 28, 29, 30, 31, 32, 33, 34, 35, 36, 37, 38, 39, 40, 41, 42, 43, 44, 45, 46, 47, 48, 49, 50, 51, 52, 53, 54, 55, 56, 57, 58, 59] rfl (by decide +kernel)
set_option maxRecDepth 20000 in
theorem gX10_best_X10_cost : GoodIn wsX10_best (wsV RX10 240 RX10 yX10_cost wsX10_cost) := goodIn_app (goodIn_r _ [2, 3, 4, 5] rfl (by decide +kernel)) ggX10_best_X10_cost
set_option maxRecDepth 20000 in
theorem ggX10_best_X10_behind : GoodIn wsX10_best wsX10_behind := goodIn_r _ [16, 17, 18, 19, 20, 21, 22, 23, 24, 25, 26, 27, 28, 29, 30, 31, 32, 33, 34, 35, 36, 37, 38, 39, 40, 41, 42, 43, 44, 45, 46, 47, 48, 49, 50, 51, 52, 53, 54, 55, 56, 57, 58, 59] rfl (by decide +kernel)
set_option maxRecDepth 20000 in
theorem gX10_best_X10_behind : GoodIn wsX10_best (wsV RX10 244 RX10 yX10_behind wsX10_behind) := goodIn_app (goodIn_r _ [13, 14, 15, 5] rfl (by decide +kernel)) ggX10_best_X10_behind
set_option maxRecDepth 20000 in
theorem ggX10_findAll_X10_best : GoodIn wsX10_findAll wsX10_best := goodIn_r _ [8, 1, 9, 10, 11, 7, 12, 13, 14, 15, 16, 17, 18, 19, 20, 21, 22, 3, 23, 24, 25, 26, 27, 28, 29, 30, 31, 32, 33, 34, 35, 36, 37, 38, 39, 40, 41, 42, 43, 44, 45, 46, 47, 48, 49, 50, 51, 52, 53, 54, 55, 56, 57, 58, 59, 60, 61, 62, 63, 64] rfl (by decide +kernel)
set_option maxRecDepth 20000 in
theorem gX10_findAll_X10_best : GoodIn wsX10_findAll (wsV RX10 247 RX10 yX10_best wsX10_best) := goodIn_app (goodIn_r _ [4, 5, 6, 7] rfl (by decide +kernel)) ggX10_findAll_X10_best
set_option maxRecDepth 20000 in
theorem ggX10_least_X10_findAll : GoodIn wsX10_least wsX10_findAll := goodIn_r _ [5, 6, 7, 8, 9, 10, 11, 4, 12, 13, 14, 15, 16, 17, 18, 19, 20, 21, 22, 23, 24, 25, 26, 27, 28, 29, 30, 31, 32, 33, 34, 35, 36, 37, 38, 39, 40, 41, 42, 43, 44, 45, 46, 47, 48, 49, 50, 51, 52, 53, 54, 55, 56, 57, 58, 59, 60, 61, 62, 63, 64, 65, 66, 67, 68] rfl (by decide +kernel)
set_option maxRecDepth 20000 in
theorem gX10_least_X10_findAll : GoodIn wsX10_least (wsV RX10 250 RX10 yX10_findAll wsX10_findAll) := goodIn_app (goodIn_r _ [1, 2, 3, 4] rfl (by decide +kernel)) ggX10_least_X10_findAll
set_option maxRecDepth 20000 in
theorem ggX10_least_X10_best : GoodIn wsX10_least wsX10_best := goodIn_r _ [12, 6, 13, 14, 15, 4, 16, 17, 18, 19, 20, 21, 22, 23, 24, 25, 26, 8, 27, 28, 29, 30, 31, 32, 33, 34, 35, 36, 37, 38, 39, 40, 41, 42, 43, 44, 45, 46, 47, 48, 49, 50, 51, 52, 53, 54, 55, 56, 57, 58, 59, 60, 61, 62, 63, 64, 65, 66, 67, 68] rfl (by decide +kernel)
set_option maxRecDepth 20000 in
theorem gX10_least_X10_best : GoodIn wsX10_least (wsV RX10 247 RX10 yX10_best wsX10_best) := goodIn_app (goodIn_r _ [9, 10, 11, 4] rfl (by decide +kernel)) ggX10_least_X10_best
set_option maxRecDepth 20000 in
theorem ggX10_order_X10_findAll : GoodIn wsX10_order wsX10_findAll := goodIn_r _ [5, 6, 7, 8, 9, 10, 11, 4, 12, 13, 14, 15, 16, 17, 18, 19, 20, 21, 22, 23, 24, 25, 26, 27, 28, 29, 30, 31, 32, 33, 34, 35, 36, 37, 38, 39, 40, 41, 42, 43, 44, 45, 46, 47, 48, 49, 50, 51, 52, 53, 54, 55, 56, 57, 58, 59, 60, 61, 62, 63, 64, 65, 66, 67, 68] rfl (by decide +kernel)
set_option maxRecDepth 20000 in
theorem gX10_order_X10_findAll : GoodIn wsX10_order (wsV RX10 250 RX10 yX10_findAll wsX10_findAll) := goodIn_app (goodIn_r _ [1, 2, 3, 4] rfl (by decide +kernel)) ggX10_order_X10_findAll
set_option maxRecDepth 20000 in
theorem ggX10_order_X10_best : GoodIn wsX10_order wsX10_best := goodIn_r _ [12, 6, 13, 14, 15, 4, 16, 17, 18, 19, 20, 21, 22, 23, 24, 25, 26, 8, 27, 28, 29, 30, 31, 32, 33, 34, 35, 36, 37, 38, 39, 40, 41, 42, 43, 44, 45, 46, 47, 48, 49, 50, 51, 52, 53, 54, 55, 56, 57, 58, 59, 60, 61, 62, 63, 64, 65, 66, 67, 68] rfl (by decide +kernel)
set_option maxRecDepth 20000 in
theorem gX10_order_X10_best : GoodIn wsX10_order (wsV RX10 247 RX10 yX10_best wsX10_best) := goodIn_app (goodIn_r _ [9, 10, 11, 4] rfl (by decide +kernel)) ggX10_order_X10_best
set_option maxRecDepth 20000 in
theorem ggX10_order_X10_cost : GoodIn wsX10_order wsX10_cost := goodIn_r _ [16, 17, 18, 19, 20, 21, 4, 22, 27, 28, 29, 30, 31, 32, 33, 34, 35, 36, 37, 38, 39, 40, 41, 42, 43, 44, 45, 46, 47, 48, 49, 50, 51, 52, 53, 54, 55, 56, 57, 58, 59, 60, 61, 62, 63, 64, 65, 66, 67, 68] rfl (by decide +kernel)
set_option maxRecDepth 20000 in
theorem gX10_order_X10_cost : GoodIn wsX10_order (wsV RX10 240 RX10 yX10_cost wsX10_cost) := goodIn_app (goodIn_r _ [13, 14, 15, 4] rfl (by decide +kernel)) ggX10_order_X10_cost
set_option maxRecDepth 20000 in
theorem ggX10_order_X10_behind : GoodIn wsX10_order wsX10_behind := goodIn_r _ [26, 8, 27, 28, 29, 30, 31, 32, 33, 34, 35, 36, 37, 38, 39, 40, 41, 42, 43, 44, 45, 46, 47, 48, 49, 50, 51, 52, 53, 54, 55, 56, 57, 58, 59, 60, 61, 62, 63, 64, 65, 66, 67, 68] rfl (by decide +kernel)
set_option maxRecDepth 20000 in
theorem gX10_order_X10_behind : GoodIn wsX10_order (wsV RX10 244 RX10 yX10_behind wsX10_behind) := goodIn_app (goodIn_r _ [23, 24, 25, 4] rfl (by decide +kernel)) ggX10_order_X10_behind
set_option maxRecDepth 20000 in
theorem ggX10_rule_X10_in : GoodIn wsX10_rule wsX10_in := goodIn_r _ [12] rfl (by decide +kernel)
set_option maxRecDepth 20000 in
theorem gX10_rule_X10_in : GoodIn wsX10_rule (va_wsS RX10 114 yX10_in wsX10_in) := goodIn_app (goodIn_r _ [9, 10, 11] rfl (by decide +kernel)) ggX10_rule_X10_in
set_option maxRecDepth 20000 in
theorem ggX10_rule_X10_waits : GoodIn wsX10_rule wsX10_waits := goodIn_r _ [16, 17, 18, 19, 20, 21, 22, 23, 24, 25, 26, 27, 28, 29, 30, 31, 32, 33, 34, 35, 36, 37, 38, 39, 40, 41, 42, 43, 44, 45, 46, 47, 48, 49, 50, 51, 52, 53, 54, 55, 56, 57, 58, 59, 60, 61] rfl (by decide +kernel)
set_option maxRecDepth 20000 in
theorem gX10_rule_X10_waits : GoodIn wsX10_rule (wsV RX10 264 RX10 yX10_waits wsX10_waits) := goodIn_app (goodIn_r _ [13, 14, 15, 11] rfl (by decide +kernel)) ggX10_rule_X10_waits
set_option maxRecDepth 20000 in
theorem ggX10_come_X10_isReading : GoodIn wsX10_come wsX10_isReading := goodIn_r _ [10, 11, 12, 13, 14, 9, 15] rfl (by decide +kernel)
set_option maxRecDepth 20000 in
theorem gX10_come_X10_isReading : GoodIn wsX10_come (va_wsS RX10 150 yX10_isReading wsX10_isReading) := goodIn_app (goodIn_r _ [7, 8, 9] rfl (by decide +kernel)) ggX10_come_X10_isReading
set_option maxRecDepth 20000 in
theorem ggX10_come_X10_isSettled : GoodIn wsX10_come wsX10_isSettled := goodIn_r _ [19, 3, 20, 2, 21, 22, 23, 24, 25, 26, 27, 28, 29, 30, 31, 32, 33, 34, 35, 36, 37, 38, 39, 40, 41, 42, 43, 44, 45, 46, 47, 48, 49, 50, 51, 52, 53, 54, 55, 56, 57, 58, 59, 60, 61, 62, 63] rfl (by decide +kernel)
set_option maxRecDepth 20000 in
theorem gX10_come_X10_isSettled : GoodIn wsX10_come (wsV RX10 267 RX10 yX10_isSettled wsX10_isSettled) := goodIn_app (goodIn_r _ [16, 17, 18, 9] rfl (by decide +kernel)) ggX10_come_X10_isSettled
set_option maxRecDepth 20000 in
theorem ggX10_settled_X10_in : GoodIn wsX10_settled wsX10_in := goodIn_r _ [11] rfl (by decide +kernel)
set_option maxRecDepth 20000 in
theorem gX10_settled_X10_in : GoodIn wsX10_settled (va_wsS RX10 114 yX10_in wsX10_in) := goodIn_app (goodIn_r _ [8, 9, 10] rfl (by decide +kernel)) ggX10_settled_X10_in
set_option maxRecDepth 20000 in
theorem ggX10_anew_X10_waits : GoodIn wsX10_anew wsX10_waits := goodIn_r _ [6, 7, 1, 8, 9, 10, 11, 12, 13, 14, 15, 16, 17, 18, 19, 20, 21, 22, 23, 24, 25, 26, 27, 28, 29, 30, 31, 32, 33, 34, 35, 36, 37, 38, 39, 40, 41, 42, 43, 44, 45, 46, 47, 48, 49, 50] rfl (by decide +kernel)
set_option maxRecDepth 20000 in
theorem gX10_anew_X10_waits : GoodIn wsX10_anew (wsV RX10 264 RX10 yX10_waits wsX10_waits) := goodIn_app (goodIn_r _ [2, 3, 4, 5] rfl (by decide +kernel)) ggX10_anew_X10_waits
set_option maxRecDepth 20000 in
theorem ggX10_tube_X10_in : GoodIn wsX10_tube wsX10_in := goodIn_r _ [9] rfl (by decide +kernel)
set_option maxRecDepth 20000 in
theorem gX10_tube_X10_in : GoodIn wsX10_tube (va_wsS RX10 114 yX10_in wsX10_in) := goodIn_app (goodIn_r _ [6, 7, 8] rfl (by decide +kernel)) ggX10_tube_X10_in
set_option maxRecDepth 20000 in
theorem ggX10_press_X10_in : GoodIn wsX10_press wsX10_in := goodIn_r _ [9] rfl (by decide +kernel)
set_option maxRecDepth 20000 in
theorem gX10_press_X10_in : GoodIn wsX10_press (va_wsS RX10 114 yX10_in wsX10_in) := goodIn_app (goodIn_r _ [6, 7, 8] rfl (by decide +kernel)) ggX10_press_X10_in
set_option maxRecDepth 20000 in
theorem ggX10_sheet_X10_in : GoodIn wsX10_sheet wsX10_in := goodIn_r _ [9] rfl (by decide +kernel)
set_option maxRecDepth 20000 in
theorem gX10_sheet_X10_in : GoodIn wsX10_sheet (va_wsS RX10 114 yX10_in wsX10_in) := goodIn_app (goodIn_r _ [6, 7, 8] rfl (by decide +kernel)) ggX10_sheet_X10_in
set_option maxRecDepth 20000 in
theorem ggX10_lay_X10_in : GoodIn wsX10_lay wsX10_in := goodIn_r _ [8] rfl (by decide +kernel)
set_option maxRecDepth 20000 in
theorem gX10_lay_X10_in : GoodIn wsX10_lay (va_wsS RX10 114 yX10_in wsX10_in) := goodIn_app (goodIn_r _ [5, 6, 7] rfl (by decide +kernel)) ggX10_lay_X10_in
set_option maxRecDepth 20000 in
theorem ggX10_scan_X10_in : GoodIn wsX10_scan wsX10_in := goodIn_r _ [14] rfl (by decide +kernel)
set_option maxRecDepth 20000 in
theorem gX10_scan_X10_in : GoodIn wsX10_scan (va_wsS RX10 114 yX10_in wsX10_in) := goodIn_app (goodIn_r _ [11, 12, 13] rfl (by decide +kernel)) ggX10_scan_X10_in
set_option maxRecDepth 20000 in
theorem ggX10_scan_X10_lostMany : GoodIn wsX10_scan wsX10_lostMany := goodIn_r _ [18, 4, 7, 19, 20, 21, 22, 23, 24, 25, 26, 27, 28, 29, 30, 31, 32, 33, 34, 35, 36, 37, 38, 39, 40, 41, 42, 43, 44, 45, 46, 47, 48, 49, 50, 51, 52, 53, 54, 55, 56, 57, 58, 59, 60] rfl (by decide +kernel)
set_option maxRecDepth 20000 in
theorem gX10_scan_X10_lostMany : GoodIn wsX10_scan (wsV RX10 278 RX10 yX10_lostMany wsX10_lostMany) := goodIn_app (goodIn_r _ [15, 16, 17, 13] rfl (by decide +kernel)) ggX10_scan_X10_lostMany
set_option maxRecDepth 20000 in
theorem ggX10_check_X10_isReading : GoodIn wsX10_check wsX10_isReading := goodIn_r _ [10, 11, 12, 13, 14, 9, 15] rfl (by decide +kernel)
set_option maxRecDepth 20000 in
theorem gX10_check_X10_isReading : GoodIn wsX10_check (va_wsS RX10 150 yX10_isReading wsX10_isReading) := goodIn_app (goodIn_r _ [7, 8, 9] rfl (by decide +kernel)) ggX10_check_X10_isReading
set_option maxRecDepth 20000 in
theorem ggX10_check_X10_in : GoodIn wsX10_check wsX10_in := goodIn_r _ [15] rfl (by decide +kernel)
set_option maxRecDepth 20000 in
theorem gX10_check_X10_in : GoodIn wsX10_check (va_wsS RX10 114 yX10_in wsX10_in) := goodIn_app (goodIn_r _ [13, 14, 9] rfl (by decide +kernel)) ggX10_check_X10_in
set_option maxRecDepth 20000 in
theorem ggX10_check_X10_lostMany : GoodIn wsX10_check wsX10_lostMany := goodIn_r _ [19, 2, 20, 28, 29, 30, 31, 32, 33, 34, 35, 36, 37, 38, 39, 40, 41, 42, 43, 44, 45, 46, 47, 48, 49, 50, 51, 52, 53, 54, 55, 56, 57, 58, 59, 60, 61, 62, 63, 64, 65, 66, 67, 68, 69] rfl (by decide +kernel)
set_option maxRecDepth 20000 in
theorem gX10_check_X10_lostMany : GoodIn wsX10_check (wsV RX10 278 RX10 yX10_lostMany wsX10_lostMany) := goodIn_app (goodIn_r _ [16, 17, 18, 9] rfl (by decide +kernel)) ggX10_check_X10_lostMany
set_option maxRecDepth 20000 in
theorem ggX10_check_X10_force : GoodIn wsX10_check wsX10_force := goodIn_r _ [24, 2, 20, 3, 4, 28, 29, 30, 31, 32, 33, 34, 35, 36, 37, 38, 39, 40, 41, 42, 43, 44, 45, 46, 47, 48, 49, 50, 51, 52, 53, 54, 55, 56, 57, 58, 59, 60, 61, 62, 63, 64, 65, 66, 67, 68, 69] rfl (by decide +kernel)
set_option maxRecDepth 20000 in
theorem gX10_check_X10_force : GoodIn wsX10_check (wsV RX10 281 RX10 yX10_force wsX10_force) := goodIn_app (goodIn_r _ [21, 22, 23, 9] rfl (by decide +kernel)) ggX10_check_X10_force
set_option maxRecDepth 20000 in
theorem ggX10_check_X10_down : GoodIn wsX10_check wsX10_down := goodIn_r _ [27] rfl (by decide +kernel)
set_option maxRecDepth 20000 in
theorem gX10_check_X10_down : GoodIn wsX10_check (va_wsS RX10 167 yX10_down wsX10_down) := goodIn_app (goodIn_r _ [25, 26, 9] rfl (by decide +kernel)) ggX10_check_X10_down
set_option maxRecDepth 20000 in
theorem ggX10_fill_X10_isReading : GoodIn wsX10_fill wsX10_isReading := goodIn_r _ [9, 10, 11, 12, 13, 8, 14] rfl (by decide +kernel)
set_option maxRecDepth 20000 in
theorem gX10_fill_X10_isReading : GoodIn wsX10_fill (va_wsS RX10 150 yX10_isReading wsX10_isReading) := goodIn_app (goodIn_r _ [6, 7, 8] rfl (by decide +kernel)) ggX10_fill_X10_isReading
set_option maxRecDepth 20000 in
theorem ggX10_fill_X10_lostMany : GoodIn wsX10_fill wsX10_lostMany := goodIn_r _ [18, 19, 1, 28, 29, 30, 31, 32, 33, 34, 35, 36, 37, 38, 39, 40, 41, 42, 43, 44, 45, 46, 47, 48, 49, 50, 51, 52, 53, 54, 55, 56, 57, 58, 59, 60, 61, 62, 63, 64, 65, 66, 67, 68, 69] rfl (by decide +kernel)
set_option maxRecDepth 20000 in
theorem gX10_fill_X10_lostMany : GoodIn wsX10_fill (wsV RX10 278 RX10 yX10_lostMany wsX10_lostMany) := goodIn_app (goodIn_r _ [15, 16, 17, 8] rfl (by decide +kernel)) ggX10_fill_X10_lostMany
set_option maxRecDepth 20000 in
theorem ggX10_fill_X10_force : GoodIn wsX10_fill wsX10_force := goodIn_r _ [23, 19, 1, 2, 24, 28, 29, 30, 31, 32, 33, 34, 35, 36, 37, 38, 39, 40, 41, 42, 43, 44, 45, 46, 47, 48, 49, 50, 51, 52, 53, 54, 55, 56, 57, 58, 59, 60, 61, 62, 63, 64, 65, 66, 67, 68, 69] rfl (by decide +kernel)
set_option maxRecDepth 20000 in
theorem gX10_fill_X10_force : GoodIn wsX10_fill (wsV RX10 281 RX10 yX10_force wsX10_force) := goodIn_app (goodIn_r _ [20, 21, 22, 8] rfl (by decide +kernel)) ggX10_fill_X10_force
set_option maxRecDepth 20000 in
theorem ggX10_fill_X10_down : GoodIn wsX10_fill wsX10_down := goodIn_r _ [27] rfl (by decide +kernel)
set_option maxRecDepth 20000 in
theorem gX10_fill_X10_down : GoodIn wsX10_fill (va_wsS RX10 167 yX10_down wsX10_down) := goodIn_app (goodIn_r _ [25, 26, 8] rfl (by decide +kernel)) ggX10_fill_X10_down
set_option maxRecDepth 20000 in
theorem ggX10_fill_X10_in : GoodIn wsX10_fill wsX10_in := goodIn_r _ [14] rfl (by decide +kernel)
set_option maxRecDepth 20000 in
theorem gX10_fill_X10_in : GoodIn wsX10_fill (va_wsS RX10 114 yX10_in wsX10_in) := goodIn_app (goodIn_r _ [12, 13, 8] rfl (by decide +kernel)) ggX10_fill_X10_in
set_option maxRecDepth 20000 in
theorem ggX10_count_X10_lostMany : GoodIn wsX10_count wsX10_lostMany := goodIn_r _ [10, 5, 11, 12, 13, 14, 15, 16, 17, 18, 19, 20, 21, 22, 23, 24, 25, 26, 27, 28, 29, 30, 31, 32, 33, 34, 35, 36, 37, 38, 39, 40, 41, 42, 43, 44, 45, 46, 47, 48, 49, 50, 51, 52, 53] rfl (by decide +kernel)
set_option maxRecDepth 20000 in
theorem gX10_count_X10_lostMany : GoodIn wsX10_count (wsV RX10 278 RX10 yX10_lostMany wsX10_lostMany) := goodIn_app (goodIn_r _ [6, 7, 8, 9] rfl (by decide +kernel)) ggX10_count_X10_lostMany
