set_option maxRecDepth 20000 in
theorem ggL_law_X9_tube : GoodIn wsL_law wsX9_tube := goodIn_k2 _ [34, 0, 89, 0, 0, 0, 657, 0, 0, 0, 0, 0, 137, 0, 0, 0, 0, 0, 0, 78, 0, 0, 0] [6, 1, 9, 10, 11, 8, 0, 2, 3, 4, 5, 7, 12, 13, 14, 15, 16, 17, 18, 19, 20, 21, 22] rfl (by decide +kernel) (by decide +kernel)
set_option maxRecDepth 20000 in
theorem gL_law_X9_tube : GoodIn wsL_law (wsV RL 127 RX9 yX9_tube wsX9_tube) := goodIn_app (goodIn_k2 _ [2, 780, 0, 0] [3, 0, 1, 2] rfl (by decide +kernel) (by decide +kernel)) ggL_law_X9_tube
set_option maxRecDepth 20000 in
theorem ggL_law_X10_tube : GoodIn wsL_law wsX10_tube := goodIn_k2 _ [5, 160, 0, 0, 20, 0, 0, 0, 602, 0, 139, 0, 0, 0, 0, 0, 0, 0, 0, 0, 0, 0, 0, 0, 0, 0, 0, 0, 0, 0, 0, 0, 0, 0, 0, 0, 0, 0, 0, 0, 0, 0, 0, 0, 0, 0, 0, 0, 0, 0, 0, 0] [8, 3, 4, 5, 1, 6, 7, 9, 0, 2, 10, 11, 12, 13, 14, 15, 16, 17, 18, 19, 20, 21, 22, 23, 24, 25, 26, 27, 28, 29, 30, 31, 32, 33, 34, 35, 36, 37, 38, 39, 40, 41, 42, 43, 44, 45, 46, 47, 48, 49, 50, 51] rfl (by decide +kernel) (by decide +kernel)
set_option maxRecDepth 20000 in
theorem gL_law_X10_tube : GoodIn wsL_law (wsV RL 130 RX10 yX10_tube wsX10_tube) := goodIn_app (goodIn_k2 _ [5, 786, 0, 0] [3, 0, 1, 2] rfl (by decide +kernel) (by decide +kernel)) ggL_law_X10_tube
set_option maxRecDepth 20000 in
theorem ggL_law_X9_press : GoodIn wsL_law wsX9_press := goodIn_k2 _ [2, 31, 0, 141, 0, 0, 1, 0, 604, 12, 0, 0, 0, 0, 0, 123, 0, 0, 0, 0, 0, 0, 78, 0, 0, 0] [7, 11, 1, 5, 6, 8, 13, 14, 2, 0, 3, 4, 9, 10, 12, 15, 16, 17, 18, 19, 20, 21, 22, 23, 24, 25] rfl (by decide +kernel) (by decide +kernel)
set_option maxRecDepth 20000 in
theorem gL_law_X9_press : GoodIn wsL_law (wsV RL 131 RX9 yX9_press wsX9_press) := goodIn_app (goodIn_k2 _ [2, 794, 0, 0] [3, 0, 1, 2] rfl (by decide +kernel) (by decide +kernel)) ggL_law_X9_press
set_option maxRecDepth 20000 in
theorem ggL_law_X10_press : GoodIn wsL_law wsX10_press := goodIn_k2 _ [5, 161, 0, 21, 0, 0, 281, 321, 12, 0, 125, 0, 0, 0, 0, 0, 0, 0, 0, 0, 0, 0, 0, 0, 0, 0, 0, 0, 0, 0, 0, 0, 0, 0, 0, 0, 0, 0, 0, 0, 0, 0, 0, 0, 0, 0, 0, 0, 0, 0, 0, 0] [8, 5, 4, 6, 7, 9, 3, 1, 0, 2, 10, 11, 12, 13, 14, 15, 16, 17, 18, 19, 20, 21, 22, 23, 24, 25, 26, 27, 28, 29, 30, 31, 32, 33, 34, 35, 36, 37, 38, 39, 40, 41, 42, 43, 44, 45, 46, 47, 48, 49, 50, 51] rfl (by decide +kernel) (by decide +kernel)
set_option maxRecDepth 20000 in
theorem gL_law_X10_press : GoodIn wsL_law (wsV RL 135 RX10 yX10_press wsX10_press) := goodIn_app (goodIn_k2 _ [5, 800, 0, 0] [3, 0, 1, 2] rfl (by decide +kernel) (by decide +kernel)) ggL_law_X10_press
set_option maxRecDepth 20000 in
theorem ggL_law_X9_sheet : GoodIn wsL_law wsX9_sheet := goodIn_k2 _ [2, 34, 1, 92, 0, 0, 42, 0, 0, 634, 0, 0, 0, 0, 0, 0, 0, 107, 0, 0, 0, 0, 0, 0, 82, 0, 0] [4, 1, 12, 14, 15, 16, 2, 3, 5, 0, 6, 7, 8, 9, 10, 11, 13, 17, 18, 19, 20, 21, 22, 23, 24, 25, 26] rfl (by decide +kernel) (by decide +kernel)
set_option maxRecDepth 20000 in
theorem gL_law_X9_sheet : GoodIn wsL_law (wsV RL 136 RX9 yX9_sheet wsX9_sheet) := goodIn_app (goodIn_k2 _ [2, 808, 0, 0] [3, 0, 1, 2] rfl (by decide +kernel) (by decide +kernel)) ggL_law_X9_sheet
set_option maxRecDepth 20000 in
theorem ggL_law_X10_sheet : GoodIn wsL_law wsX10_sheet := goodIn_k2 _ [5, 163, 0, 0, 15, 2, 0, 0, 581, 50, 110, 0, 0, 0, 0, 0, 0, 0, 0, 0, 0, 0, 0, 0, 0, 0, 0, 0, 0, 0, 0, 0, 0, 0, 0, 0, 0, 0, 0, 0, 0, 0, 0, 0, 0, 0, 0, 0, 0, 0, 0, 0] [8, 3, 4, 5, 2, 6, 7, 9, 1, 0, 10, 11, 12, 13, 14, 15, 16, 17, 18, 19, 20, 21, 22, 23, 24, 25, 26, 27, 28, 29, 30, 31, 32, 33, 34, 35, 36, 37, 38, 39, 40, 41, 42, 43, 44, 45, 46, 47, 48, 49, 50, 51] rfl (by decide +kernel) (by decide +kernel)
set_option maxRecDepth 20000 in
theorem gL_law_X10_sheet : GoodIn wsL_law (wsV RL 139 RX10 yX10_sheet wsX10_sheet) := goodIn_app (goodIn_k2 _ [5, 816, 0, 0] [3, 0, 1, 2] rfl (by decide +kernel) (by decide +kernel)) ggL_law_X10_sheet
set_option maxRecDepth 20000 in
theorem ggL_law_X9_lay : GoodIn wsL_law wsX9_lay := goodIn_k2 _ [2, 34, 1, 92, 0, 0, 42, 0, 0, 635, 0, 0, 11, 0, 0, 0, 0, 0, 0, 0, 0, 91, 0, 0, 0, 0, 0, 0, 82, 0, 0] [4, 1, 9, 11, 12, 20, 2, 3, 5, 13, 14, 15, 0, 6, 7, 8, 10, 16, 17, 18, 19, 21, 22, 23, 24, 25, 26, 27, 28, 29, 30] rfl (by decide +kernel) (by decide +kernel)
set_option maxRecDepth 20000 in
theorem gL_law_X9_lay : GoodIn wsL_law (wsV RL 140 RX9 yX9_lay wsX9_lay) := goodIn_app (goodIn_k2 _ [2, 823, 0, 0] [3, 0, 1, 2] rfl (by decide +kernel) (by decide +kernel)) ggL_law_X9_lay
set_option maxRecDepth 20000 in
theorem ggL_law_X10_lay : GoodIn wsL_law wsX10_lay := goodIn_k2 _ [5, 163, 0, 0, 18, 0, 0, 581, 66, 94, 0, 0, 0, 0, 0, 0, 0, 0, 0, 0, 0, 0, 0, 0, 0, 0, 0, 0, 0, 0, 0, 0, 0, 0, 0, 0, 0, 0, 0, 0, 0, 0, 0, 0, 0, 0, 0, 0, 0, 0, 0] [7, 2, 3, 4, 5, 6, 8, 1, 0, 9, 10, 11, 12, 13, 14, 15, 16, 17, 18, 19, 20, 21, 22, 23, 24, 25, 26, 27, 28, 29, 30, 31, 32, 33, 34, 35, 36, 37, 38, 39, 40, 41, 42, 43, 44, 45, 46, 47, 48, 49, 50] rfl (by decide +kernel) (by decide +kernel)
set_option maxRecDepth 20000 in
theorem gL_law_X10_lay : GoodIn wsL_law (wsV RL 143 RX10 yX10_lay wsX10_lay) := goodIn_app (goodIn_k2 _ [5, 832, 0, 0] [3, 0, 1, 2] rfl (by decide +kernel) (by decide +kernel)) ggL_law_X10_lay
set_option maxRecDepth 20000 in
theorem ggL_law_X9_scan : GoodIn wsL_law wsX9_scan := goodIn_k2 _ [2, 31, 0, 1, 1, 85, 0, 0, 4, 0, 0, 42, 0, 0, 1, 0, 604, 16, 0, 9, 0, 0, 12, 0, 0, 0, 11, 0, 0, 0, 0, 0, 0, 0, 0, 0, 0, 0, 0, 0, 0, 0, 0, 0, 66, 0, 0, 0, 0, 0, 0, 78, 0, 0, 0, 0, 0, 0] [6, 25, 2, 1, 11, 27, 28, 29, 13, 18, 34, 4, 5, 7, 38, 39, 3, 36, 37, 19, 20, 21, 14, 15, 16, 17, 0, 8, 9, 10, 12, 22, 23, 24, 26, 30, 31, 32, 33, 35, 40, 41, 42, 43, 44, 45, 46, 47, 48, 49, 50, 51, 52, 53, 54, 55, 56, 57] rfl (by decide +kernel) (by decide +kernel)
set_option maxRecDepth 20000 in
theorem gL_law_X9_scan : GoodIn wsL_law (wsV RL 144 RX9 yX9_scan wsX9_scan) := goodIn_app (goodIn_k2 _ [2, 839, 0, 0] [3, 0, 1, 2] rfl (by decide +kernel) (by decide +kernel)) ggL_law_X9_scan
