set_option maxRecDepth 20000 in
theorem ggL_law_X10_back : GoodIn wsL_law wsX10_back := goodIn_k2 _ [5, 133, 0, 0, 0, 0, 43, 1, 0, 0, 0, 36, 0, 0, 0, 0, 0, 0, 0, 0, 0, 64, 0, 0, 0, 0, 0, 0, 0, 0, 0, 0, 0, 0, 0, 0, 0, 0, 0, 0, 0, 0, 0, 611, 0, 0, 0, 0, 0, 0, 0, 0, 0, 0, 0, 0, 0, 0, 0, 0, 0, 0, 0, 0, 0, 0, 0, 0, 0, 0, 0, 0, 0, 0, 0, 0, 0, 0, 0, 0, 0, 0, 0, 0, 0] [10, 3, 25, 2, 6, 4, 34, 33, 14, 15, 16, 35, 1, 39, 40, 41, 42, 21, 22, 23, 24, 0, 5, 7, 8, 9, 11, 12, 13, 17, 18, 19, 20, 26, 27, 28, 29, 30, 31, 32, 36, 37, 38, 43, 44, 45, 46, 47, 48, 49, 50, 51, 52, 53, 54, 55, 56, 57, 58, 59, 60, 61, 62, 63, 64, 65, 66, 67, 68, 69, 70, 71, 72, 73, 74, 75, 76, 77, 78, 79, 80, 81, 82, 83, 84] rfl (by decide +kernel) (by decide +kernel)
set_option maxRecDepth 20000 in
theorem gL_law_X10_back : GoodIn wsL_law (wsV RL 30 RX10 yX10_back wsX10_back) := goodIn_app (goodIn_k2 _ [5, 294, 0, 0] [3, 0, 1, 2] rfl (by decide +kernel) (by decide +kernel)) ggL_law_X10_back
set_option maxRecDepth 20000 in
theorem ggL_law_X9_found : GoodIn wsL_law wsX9_found := goodIn_k2 _ [2, 12, 161, 0, 0, 148, 0, 0, 0, 597, 0, 0, 0, 0, 0, 0, 42, 0, 0, 0, 0, 0, 0] [7, 1, 5, 6, 8, 0, 2, 3, 4, 9, 10, 11, 12, 13, 14, 15, 16, 17, 18, 19, 20, 21, 22] rfl (by decide +kernel) (by decide +kernel)
set_option maxRecDepth 20000 in
theorem gL_law_X9_found : GoodIn wsL_law (wsV RL 31 RX9 yX9_found wsX9_found) := goodIn_app (goodIn_k2 _ [2, 322, 0, 0] [3, 0, 1, 2] rfl (by decide +kernel) (by decide +kernel)) ggL_law_X9_found
set_option maxRecDepth 20000 in
theorem ggL_law_X10_found : GoodIn wsL_law wsX10_found := goodIn_k2 _ [5, 137, 43, 2, 0, 0, 111, 0, 29, 600, 0, 0, 0, 0, 0, 0, 0, 0, 0, 0, 0, 0, 0, 0, 0, 0, 0, 0, 0, 0, 0, 0, 0, 0, 0, 0, 0, 0, 0, 0, 0, 0, 0, 0, 0, 0, 0, 0, 0, 0, 0] [7, 2, 1, 5, 6, 8, 3, 4, 0, 9, 10, 11, 12, 13, 14, 15, 16, 17, 18, 19, 20, 21, 22, 23, 24, 25, 26, 27, 28, 29, 30, 31, 32, 33, 34, 35, 36, 37, 38, 39, 40, 41, 42, 43, 44, 45, 46, 47, 48, 49, 50] rfl (by decide +kernel) (by decide +kernel)
set_option maxRecDepth 20000 in
theorem gL_law_X10_found : GoodIn wsL_law (wsV RL 35 RX10 yX10_found wsX10_found) := goodIn_app (goodIn_k2 _ [5, 326, 0, 0] [3, 0, 1, 2] rfl (by decide +kernel) (by decide +kernel)) ggL_law_X10_found
set_option maxRecDepth 20000 in
theorem ggL_law_X9_point : GoodIn wsL_law wsX9_point := goodIn_k2 _ [2, 16, 160, 0, 0, 27, 0, 0, 30, 0, 0, 0, 18, 0, 72, 0, 0, 0, 0, 585, 0, 0, 0, 0, 0, 0, 49, 0, 0, 0] [7, 1, 9, 10, 11, 5, 6, 8, 12, 13, 14, 15, 17, 18, 0, 2, 3, 4, 16, 19, 20, 21, 22, 23, 24, 25, 26, 27, 28, 29] rfl (by decide +kernel) (by decide +kernel)
set_option maxRecDepth 20000 in
theorem gL_law_X9_point : GoodIn wsL_law (wsV RL 36 RX9 yX9_point wsX9_point) := goodIn_app (goodIn_k2 _ [2, 333, 0, 0] [3, 0, 1, 2] rfl (by decide +kernel) (by decide +kernel)) ggL_law_X9_point
set_option maxRecDepth 20000 in
theorem ggL_law_X10_point : GoodIn wsL_law wsX10_point := goodIn_k2 _ [5, 138, 0, 44, 0, 0, 33, 0, 0, 0, 0, 75, 0, 0, 0, 0, 36, 0, 587, 0, 0, 0, 0, 0, 0, 0, 0, 0, 0, 0, 0, 0, 0, 0, 0, 0, 0, 0, 0, 0, 0, 0, 0, 0, 0, 0, 0, 0, 0, 0, 0, 0, 0, 0, 0, 0, 0, 0, 0, 0] [6, 2, 3, 10, 11, 12, 4, 5, 7, 8, 9, 13, 14, 15, 16, 17, 0, 1, 18, 19, 20, 21, 22, 23, 24, 25, 26, 27, 28, 29, 30, 31, 32, 33, 34, 35, 36, 37, 38, 39, 40, 41, 42, 43, 44, 45, 46, 47, 48, 49, 50, 51, 52, 53, 54, 55, 56, 57, 58, 59] rfl (by decide +kernel) (by decide +kernel)
set_option maxRecDepth 20000 in
theorem gL_law_X10_point : GoodIn wsL_law (wsV RL 40 RX10 yX10_point wsX10_point) := goodIn_app (goodIn_k2 _ [5, 338, 0, 0] [3, 0, 1, 2] rfl (by decide +kernel) (by decide +kernel)) ggL_law_X10_point
set_option maxRecDepth 20000 in
theorem ggL_law_X9_fit : GoodIn wsL_law wsX9_fit := goodIn_k2 _ [2, 15, 0, 34, 6, 0, 4, 0, 0, 1, 105, 0, 0, 78, 0, 0, 0, 0, 0, 0, 15, 71, 0, 0, 0, 0, 0, 0, 0, 0, 0, 0, 0, 0, 0, 0, 0, 0, 0, 0, 0, 0, 0, 0, 0, 553, 0, 0, 0, 0, 0, 0, 49, 0, 0, 0, 32, 0] [5, 10, 2, 34, 41, 40, 23, 24, 22, 12, 3, 4, 6, 32, 33, 35, 36, 37, 38, 39, 16, 0, 1, 7, 8, 9, 11, 13, 14, 15, 17, 18, 19, 20, 21, 25, 26, 27, 28, 29, 30, 31, 42, 43, 44, 45, 46, 47, 48, 49, 50, 51, 52, 53, 54, 55, 56, 57] rfl (by decide +kernel) (by decide +kernel)
set_option maxRecDepth 20000 in
theorem gL_law_X9_fit : GoodIn wsL_law (wsV RL 41 RX9 yX9_fit wsX9_fit) := goodIn_app (goodIn_k2 _ [2, 346, 0, 0] [3, 0, 1, 2] rfl (by decide +kernel) (by decide +kernel)) ggL_law_X9_fit
set_option maxRecDepth 20000 in
theorem ggL_law_X10_fit : GoodIn wsL_law wsX10_fit := goodIn_k2 _ [5, 135, 0, 1, 0, 41, 1, 0, 0, 0, 118, 0, 0, 0, 0, 0, 0, 0, 29, 30, 0, 0, 0, 0, 552, 0, 0, 0, 0, 0, 0, 0, 0, 0, 0, 0, 0, 0, 0, 0, 0, 0, 0, 0, 0, 0, 0, 0, 0, 0, 0, 0, 0, 0, 0, 0, 0, 0, 0, 0, 0, 0, 0, 0, 0, 0] [11, 4, 3, 6, 7, 1, 8, 9, 10, 12, 13, 14, 15, 16, 17, 18, 19, 20, 5, 0, 2, 21, 22, 23, 24, 25, 26, 27, 28, 29, 30, 31, 32, 33, 34, 35, 36, 37, 38, 39, 40, 41, 42, 43, 44, 45, 46, 47, 48, 49, 50, 51, 52, 53, 54, 55, 56, 57, 58, 59, 60, 61, 62, 63, 64, 65] rfl (by decide +kernel) (by decide +kernel)
set_option maxRecDepth 20000 in
theorem gL_law_X10_fit : GoodIn wsL_law (wsV RL 45 RX10 yX10_fit wsX10_fit) := goodIn_app (goodIn_k2 _ [5, 370, 0, 0] [3, 0, 1, 2] rfl (by decide +kernel) (by decide +kernel)) ggL_law_X10_fit
set_option maxRecDepth 20000 in
theorem ggL_law_X9_miss : GoodIn wsL_law wsX9_miss := goodIn_k2 _ [2, 11, 0, 2, 0, 25, 1, 19, 0, 0, 107, 0, 0, 34, 0, 0, 0, 0, 0, 0, 59, 13, 0, 1, 0, 41, 46, 0, 0, 0, 0, 0, 0, 0, 534, 0, 0, 0, 0, 0, 0, 42, 0, 0, 0, 0, 0, 0, 0, 0, 0, 0] [6, 26, 3, 11, 1, 28, 33, 14, 15, 13, 4, 5, 7, 24, 25, 27, 29, 30, 31, 32, 18, 17, 19, 21, 22, 2, 0, 8, 9, 10, 12, 16, 20, 23, 34, 35, 36, 37, 38, 39, 40, 45, 46, 47, 48, 49, 50, 51, 41, 42, 43, 44] rfl (by decide +kernel) (by decide +kernel)
set_option maxRecDepth 20000 in
theorem gL_law_X9_miss : GoodIn wsL_law (wsV RL 46 RX9 yX9_miss wsX9_miss) := goodIn_app (goodIn_k2 _ [2, 381, 0, 0] [3, 0, 1, 2] rfl (by decide +kernel) (by decide +kernel)) ggL_law_X9_miss
set_option maxRecDepth 20000 in
theorem ggL_law_X10_miss : GoodIn wsL_law wsX10_miss := goodIn_k2 _ [5, 133, 0, 3, 0, 41, 2, 0, 0, 38, 0, 0, 0, 0, 0, 0, 0, 109, 49, 537, 0, 0, 0, 0, 0, 0, 0, 0, 0, 0, 0, 0, 0, 0, 0, 0, 0, 0, 0, 0, 0, 0, 0, 0, 0, 0, 0, 0, 0, 0, 0, 0, 0, 0, 0, 0, 0, 0, 0, 0, 0] [7, 13, 18, 4, 3, 1, 5, 6, 8, 9, 10, 11, 12, 14, 15, 16, 17, 2, 0, 19, 20, 21, 22, 23, 24, 25, 26, 27, 28, 29, 30, 31, 32, 33, 34, 35, 36, 37, 38, 39, 40, 41, 42, 43, 44, 45, 46, 47, 48, 49, 50, 51, 52, 53, 54, 55, 56, 57, 58, 59, 60] rfl (by decide +kernel) (by decide +kernel)
set_option maxRecDepth 20000 in
theorem gL_law_X10_miss : GoodIn wsL_law (wsV RL 49 RX10 yX10_miss wsX10_miss) := goodIn_app (goodIn_k2 _ [5, 389, 0, 0] [3, 0, 1, 2] rfl (by decide +kernel) (by decide +kernel)) ggL_law_X10_miss
