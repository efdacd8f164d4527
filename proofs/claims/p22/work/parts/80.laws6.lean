set_option maxRecDepth 20000 in
theorem ggL_law_X9_tube : GoodIn wsL_law wsX9_tube := goodIn_k _ [34, 0, 89, 0, 0, 0, 657, 0, 0, 0, 0, 0, 137, 0, 0, 0, 0, 0, 0, 78, 0, 0, 0] [6, 1, 7, 8, 9, 10, 0, 11, 5, 2, 3, 4, 12, 13, 14, 15, 16, 17, 18, 19, 20, 21, 22] rfl (by decide +kernel)
set_option maxRecDepth 20000 in
theorem gL_law_X9_tube : GoodIn wsL_law (wsV RL 127 RX9 yX9_tube wsX9_tube) := goodIn_app (goodIn_k _ [2, 780, 0, 0] [1, 2, 3, 0] rfl (by decide +kernel)) ggL_law_X9_tube
set_option maxRecDepth 20000 in
theorem ggL_law_X10_tube : GoodIn wsL_law wsX10_tube := goodIn_k _ [5, 160, 0, 0, 20, 0, 0, 0, 602, 0, 139, 0, 0, 0, 0, 0, 0, 0, 0, 0, 0, 0, 0, 0, 0, 0, 0, 0, 0, 0, 0, 0, 0, 0, 0, 0, 0, 0, 0, 0, 0, 0, 0, 0, 0, 0, 0, 0, 0, 0, 0, 0] [8, 4, 9, 1, 2, 3, 5, 6, 0, 7, 10, 11, 12, 13, 14, 15, 16, 17, 18, 19, 20, 21, 22, 23, 24, 25, 26, 27, 28, 29, 30, 31, 32, 33, 34, 35, 36, 37, 38, 39, 40, 41, 42, 43, 44, 45, 46, 47, 48, 49, 50, 51] rfl (by decide +kernel)
set_option maxRecDepth 20000 in
theorem gL_law_X10_tube : GoodIn wsL_law (wsV RL 130 RX10 yX10_tube wsX10_tube) := goodIn_app (goodIn_k _ [5, 786, 0, 0] [1, 2, 3, 0] rfl (by decide +kernel)) ggL_law_X10_tube
set_option maxRecDepth 20000 in
theorem ggL_law_X9_press : GoodIn wsL_law wsX9_press := goodIn_k _ [2, 31, 0, 141, 0, 0, 1, 0, 604, 12, 0, 0, 0, 0, 0, 123, 0, 0, 0, 0, 0, 0, 78, 0, 0, 0] [9, 2, 8, 10, 11, 3, 4, 0, 5, 12, 13, 1, 14, 6, 7, 15, 16, 17, 18, 19, 20, 21, 22, 23, 24, 25] rfl (by decide +kernel)
set_option maxRecDepth 20000 in
theorem gL_law_X9_press : GoodIn wsL_law (wsV RL 131 RX9 yX9_press wsX9_press) := goodIn_app (goodIn_k _ [2, 794, 0, 0] [1, 2, 3, 0] rfl (by decide +kernel)) ggL_law_X9_press
set_option maxRecDepth 20000 in
theorem ggL_law_X10_press : GoodIn wsL_law wsX10_press := goodIn_k _ [5, 161, 0, 21, 0, 0, 281, 321, 12, 0, 125, 0, 0, 0, 0, 0, 0, 0, 0, 0, 0, 0, 0, 0, 0, 0, 0, 0, 0, 0, 0, 0, 0, 0, 0, 0, 0, 0, 0, 0, 0, 0, 0, 0, 0, 0, 0, 0, 0, 0, 0, 0] [8, 7, 9, 6, 2, 1, 3, 4, 0, 5, 10, 11, 12, 13, 14, 15, 16, 17, 18, 19, 20, 21, 22, 23, 24, 25, 26, 27, 28, 29, 30, 31, 32, 33, 34, 35, 36, 37, 38, 39, 40, 41, 42, 43, 44, 45, 46, 47, 48, 49, 50, 51] rfl (by decide +kernel)
set_option maxRecDepth 20000 in
theorem gL_law_X10_press : GoodIn wsL_law (wsV RL 135 RX10 yX10_press wsX10_press) := goodIn_app (goodIn_k _ [5, 800, 0, 0] [1, 2, 3, 0] rfl (by decide +kernel)) ggL_law_X10_press
set_option maxRecDepth 20000 in
theorem ggL_law_X9_sheet : GoodIn wsL_law wsX9_sheet := goodIn_k _ [2, 34, 1, 92, 0, 0, 42, 0, 0, 634, 0, 0, 0, 0, 0, 0, 0, 107, 0, 0, 0, 0, 0, 0, 82, 0, 0] [9, 1, 6, 7, 0, 8, 10, 11, 12, 13, 14, 15, 2, 16, 3, 4, 5, 17, 18, 19, 20, 21, 22, 23, 24, 25, 26] rfl (by decide +kernel)
set_option maxRecDepth 20000 in
theorem gL_law_X9_sheet : GoodIn wsL_law (wsV RL 136 RX9 yX9_sheet wsX9_sheet) := goodIn_app (goodIn_k _ [2, 808, 0, 0] [1, 2, 3, 0] rfl (by decide +kernel)) ggL_law_X9_sheet
set_option maxRecDepth 20000 in
theorem ggL_law_X10_sheet : GoodIn wsL_law wsX10_sheet := goodIn_k _ [5, 163, 0, 0, 15, 2, 0, 0, 581, 50, 110, 0, 0, 0, 0, 0, 0, 0, 0, 0, 0, 0, 0, 0, 0, 0, 0, 0, 0, 0, 0, 0, 0, 0, 0, 0, 0, 0, 0, 0, 0, 0, 0, 0, 0, 0, 0, 0, 0, 0, 0, 0] [9, 8, 4, 1, 2, 3, 5, 6, 0, 7, 10, 11, 12, 13, 14, 15, 16, 17, 18, 19, 20, 21, 22, 23, 24, 25, 26, 27, 28, 29, 30, 31, 32, 33, 34, 35, 36, 37, 38, 39, 40, 41, 42, 43, 44, 45, 46, 47, 48, 49, 50, 51] rfl (by decide +kernel)
set_option maxRecDepth 20000 in
theorem gL_law_X10_sheet : GoodIn wsL_law (wsV RL 139 RX10 yX10_sheet wsX10_sheet) := goodIn_app (goodIn_k _ [5, 816, 0, 0] [1, 2, 3, 0] rfl (by decide +kernel)) ggL_law_X10_sheet
set_option maxRecDepth 20000 in
theorem ggL_law_X9_lay : GoodIn wsL_law wsX9_lay := goodIn_k _ [2, 34, 1, 92, 0, 0, 42, 0, 0, 635, 0, 0, 11, 0, 0, 0, 0, 0, 0, 0, 0, 91, 0, 0, 0, 0, 0, 0, 82, 0, 0] [12, 1, 6, 7, 0, 8, 13, 14, 15, 2, 16, 3, 4, 9, 10, 11, 17, 18, 19, 20, 5, 21, 22, 23, 24, 25, 26, 27, 28, 29, 30] rfl (by decide +kernel)
set_option maxRecDepth 20000 in
theorem gL_law_X9_lay : GoodIn wsL_law (wsV RL 140 RX9 yX9_lay wsX9_lay) := goodIn_app (goodIn_k _ [2, 823, 0, 0] [1, 2, 3, 0] rfl (by decide +kernel)) ggL_law_X9_lay
set_option maxRecDepth 20000 in
theorem ggL_law_X10_lay : GoodIn wsL_law wsX10_lay := goodIn_k _ [5, 163, 0, 0, 18, 0, 0, 581, 66, 94, 0, 0, 0, 0, 0, 0, 0, 0, 0, 0, 0, 0, 0, 0, 0, 0, 0, 0, 0, 0, 0, 0, 0, 0, 0, 0, 0, 0, 0, 0, 0, 0, 0, 0, 0, 0, 0, 0, 0, 0, 0] [8, 7, 1, 2, 3, 4, 5, 0, 6, 9, 10, 11, 12, 13, 14, 15, 16, 17, 18, 19, 20, 21, 22, 23, 24, 25, 26, 27, 28, 29, 30, 31, 32, 33, 34, 35, 36, 37, 38, 39, 40, 41, 42, 43, 44, 45, 46, 47, 48, 49, 50] rfl (by decide +kernel)
set_option maxRecDepth 20000 in
theorem gL_law_X10_lay : GoodIn wsL_law (wsV RL 143 RX10 yX10_lay wsX10_lay) := goodIn_app (goodIn_k _ [5, 832, 0, 0] [1, 2, 3, 0] rfl (by decide +kernel)) ggL_law_X10_lay
set_option maxRecDepth 20000 in
theorem ggL_law_X9_scan : GoodIn wsL_law wsX9_scan := goodIn_k _ [2, 31, 0, 1, 1, 85, 0, 0, 4, 0, 0, 42, 0, 0, 1, 0, 604, 16, 0, 9, 0, 0, 12, 0, 0, 0, 11, 0, 0, 0, 0, 0, 0, 0, 0, 0, 0, 0, 0, 0, 0, 0, 0, 0, 66, 0, 0, 0, 0, 0, 0, 78, 0, 0, 0, 0, 0, 0] [26, 3, 2, 16, 11, 12, 0, 13, 27, 28, 29, 4, 30, 8, 22, 23, 24, 25, 9, 19, 20, 21, 31, 32, 33, 1, 34, 5, 6, 7, 35, 36, 37, 38, 10, 39, 17, 18, 14, 15, 40, 41, 42, 43, 44, 45, 46, 47, 48, 49, 50, 51, 52, 53, 54, 55, 56, 57] rfl (by decide +kernel)
set_option maxRecDepth 20000 in
theorem gL_law_X9_scan : GoodIn wsL_law (wsV RL 144 RX9 yX9_scan wsX9_scan) := goodIn_app (goodIn_k _ [2, 839, 0, 0] [1, 2, 3, 0] rfl (by decide +kernel)) ggL_law_X9_scan
