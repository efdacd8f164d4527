set_option maxRecDepth 20000 in
theorem ggL_law_X9_place : GoodIn wsL_law wsX9_place := goodIn_k2 _ [2, 23, 0, 69, 1, 1, 0, 3, 0, 69, 0, 0, 100, 13, 0, 280, 0, 0, 0, 0, 0, 0, 0, 0, 0, 0, 0, 0, 0, 339, 0, 0, 0, 0, 0, 0, 60, 0, 0, 0, 0, 0, 0, 0, 0, 0] [5, 10, 1, 12, 15, 28, 16, 13, 14, 3, 4, 6, 23, 22, 24, 0, 2, 7, 8, 9, 11, 17, 18, 19, 20, 21, 25, 26, 27, 29, 30, 31, 32, 33, 34, 35, 36, 37, 38, 39, 40, 41, 42, 43, 44, 45] rfl (by decide +kernel) (by decide +kernel)
set_option maxRecDepth 20000 in
theorem gL_law_X9_place : GoodIn wsL_law (wsV RL 90 RX9 yX9_place wsX9_place) := goodIn_app (goodIn_k2 _ [2, 570, 0, 0] [3, 0, 1, 2] rfl (by decide +kernel) (by decide +kernel)) ggL_law_X9_place
set_option maxRecDepth 20000 in
theorem ggL_law_X10_place : GoodIn wsL_law wsX10_place := goodIn_k2 _ [5, 149, 0, 0, 32, 0, 0, 282, 117, 0, 0, 340, 0, 0, 0, 0, 0, 0, 0, 0, 0, 0, 0, 0, 0, 0, 0, 0, 0, 0, 0, 0, 0, 0, 0, 0, 0, 0, 0, 0, 0, 0, 0, 0, 0, 0, 0, 0, 0, 0, 0, 0, 0] [9, 4, 5, 6, 7, 8, 10, 1, 0, 2, 3, 11, 12, 13, 14, 15, 16, 17, 18, 19, 20, 21, 22, 23, 24, 25, 26, 27, 28, 29, 30, 31, 32, 33, 34, 35, 36, 37, 38, 39, 40, 41, 42, 43, 44, 45, 46, 47, 48, 49, 50, 51, 52] rfl (by decide +kernel) (by decide +kernel)
set_option maxRecDepth 20000 in
theorem gL_law_X10_place : GoodIn wsL_law (wsV RL 94 RX10 yX10_place wsX10_place) := goodIn_app (goodIn_k2 _ [5, 584, 0, 0] [3, 0, 1, 2] rfl (by decide +kernel) (by decide +kernel)) ggL_law_X10_place
set_option maxRecDepth 20000 in
theorem ggL_law_X9_done : GoodIn wsL_law wsX9_done := goodIn_k2 _ [2, 24, 149, 0, 0, 397, 21, 0, 0, 327, 0, 0, 0, 0, 0, 0, 60, 0, 0, 0, 0, 0, 0, 0, 0, 0] [7, 1, 5, 6, 8, 2, 0, 3, 4, 9, 10, 11, 12, 13, 14, 15, 16, 17, 18, 19, 20, 21, 22, 23, 24, 25] rfl (by decide +kernel) (by decide +kernel)
set_option maxRecDepth 20000 in
theorem gL_law_X9_done : GoodIn wsL_law (wsV RL 95 RX9 yX9_done wsX9_done) := goodIn_app (goodIn_k2 _ [2, 593, 0, 0] [3, 0, 1, 2] rfl (by decide +kernel) (by decide +kernel)) ggL_law_X9_done
set_option maxRecDepth 20000 in
theorem ggL_law_X10_done : GoodIn wsL_law wsX10_done := goodIn_k2 _ [5, 151, 32, 0, 0, 402, 9, 0, 0, 0, 0, 326, 0, 0, 0, 0, 0, 0, 0, 0, 0, 0, 0, 0, 0, 0, 0, 0, 0, 0, 0, 0, 0, 0, 0, 0, 0, 0, 0, 0, 0, 0, 0, 0, 0, 0, 0, 0, 0, 0, 0, 0, 0] [5, 1, 8, 9, 10, 7, 0, 2, 3, 4, 6, 11, 12, 13, 14, 15, 16, 17, 18, 19, 20, 21, 22, 23, 24, 25, 26, 27, 28, 29, 30, 31, 32, 33, 34, 35, 36, 37, 38, 39, 40, 41, 42, 43, 44, 45, 46, 47, 48, 49, 50, 51, 52] rfl (by decide +kernel) (by decide +kernel)
set_option maxRecDepth 20000 in
theorem gL_law_X10_done : GoodIn wsL_law (wsV RL 98 RX10 yX10_done wsX10_done) := goodIn_app (goodIn_k2 _ [5, 596, 0, 0] [3, 0, 1, 2] rfl (by decide +kernel) (by decide +kernel)) ggL_law_X10_done
set_option maxRecDepth 20000 in
theorem ggL_law_X9_moves : GoodIn wsL_law wsX9_moves := goodIn_k2 _ [2, 24, 149, 0, 0, 397, 35, 0, 314, 0, 0, 0, 0, 0, 0, 60, 0, 0, 0, 0, 0, 0, 0, 0, 0] [6, 1, 4, 5, 7, 2, 0, 3, 8, 9, 10, 11, 12, 13, 14, 15, 16, 17, 18, 19, 20, 21, 22, 23, 24] rfl (by decide +kernel) (by decide +kernel)
set_option maxRecDepth 20000 in
theorem gL_law_X9_moves : GoodIn wsL_law (wsV RL 99 RX9 yX9_moves wsX9_moves) := goodIn_app (goodIn_k2 _ [2, 607, 0, 0] [3, 0, 1, 2] rfl (by decide +kernel) (by decide +kernel)) ggL_law_X9_moves
set_option maxRecDepth 20000 in
theorem ggL_law_X10_moves : GoodIn wsL_law wsX10_moves := goodIn_k2 _ [5, 149, 0, 33, 0, 0, 402, 10, 0, 0, 0, 8, 0, 0, 0, 0, 313, 0, 0, 0, 0, 0, 0, 0, 0, 0, 0, 0, 0, 0, 0, 0, 0, 0, 0, 0, 0, 0, 0, 0, 0, 0, 0, 0, 0, 0, 0, 0, 0, 0, 0, 0, 0, 0, 0, 0, 0, 0] [6, 1, 2, 9, 10, 11, 8, 3, 4, 5, 7, 0, 12, 13, 14, 15, 16, 17, 18, 19, 20, 21, 22, 23, 24, 25, 26, 27, 28, 29, 30, 31, 32, 33, 34, 35, 36, 37, 38, 39, 40, 41, 42, 43, 44, 45, 46, 47, 48, 49, 50, 51, 52, 53, 54, 55, 56, 57] rfl (by decide +kernel) (by decide +kernel)
set_option maxRecDepth 20000 in
theorem gL_law_X10_moves : GoodIn wsL_law (wsV RL 102 RX10 yX10_moves wsX10_moves) := goodIn_app (goodIn_k2 _ [5, 609, 0, 0] [3, 0, 1, 2] rfl (by decide +kernel) (by decide +kernel)) ggL_law_X10_moves
set_option maxRecDepth 20000 in
theorem ggL_law_X9_least : GoodIn wsL_law wsX9_least := goodIn_k2 _ [26, 0, 69, 1, 1, 0, 0, 0, 0, 2, 517, 0, 0, 0, 0, 0, 0, 0, 0, 0, 0, 0, 0, 0, 0, 0, 0, 0, 0, 0, 0, 0, 0, 0, 0, 0, 0, 0, 0, 0, 0, 0, 0, 0, 0, 0, 0, 0, 0, 0, 263, 0, 0, 0, 0, 0, 0, 60, 0, 0, 0, 0, 0, 0, 0, 0, 0] [6, 1, 15, 16, 36, 8, 41, 10, 42, 9, 0, 2, 3, 4, 5, 7, 11, 12, 13, 14, 17, 18, 19, 20, 21, 22, 23, 24, 25, 26, 27, 28, 29, 30, 31, 32, 33, 34, 35, 37, 38, 39, 40, 43, 44, 45, 46, 47, 48, 49, 50, 51, 52, 53, 54, 55, 56, 57, 58, 59, 60, 61, 62, 63, 64, 65, 66] rfl (by decide +kernel) (by decide +kernel)
set_option maxRecDepth 20000 in
theorem gL_law_X9_least : GoodIn wsL_law (wsV RL 103 RX9 yX9_least wsX9_least) := goodIn_app (goodIn_k2 _ [2, 620, 0, 0] [3, 0, 1, 2] rfl (by decide +kernel) (by decide +kernel)) ggL_law_X9_least
set_option maxRecDepth 20000 in
theorem ggL_law_X10_least : GoodIn wsL_law wsX10_least := goodIn_k2 _ [5, 149, 0, 0, 0, 436, 23, 0, 0, 0, 46, 0, 0, 0, 0, 0, 0, 0, 0, 0, 0, 0, 0, 0, 0, 0, 0, 250, 0, 0, 0, 0, 0, 0, 0, 0, 0, 0, 0, 0, 0, 0, 0, 0, 0, 0, 0, 0, 0, 0, 0, 0, 0, 0, 0, 0, 0, 0, 0, 0, 0, 0, 0, 0, 0, 0, 0, 0, 0] [4, 17, 18, 7, 8, 6, 19, 20, 21, 22, 0, 1, 2, 3, 5, 9, 10, 11, 12, 13, 14, 15, 16, 23, 24, 25, 26, 27, 28, 29, 30, 31, 32, 33, 34, 35, 36, 37, 38, 39, 40, 41, 42, 43, 44, 45, 46, 47, 48, 49, 50, 51, 52, 53, 54, 55, 56, 57, 58, 59, 60, 61, 62, 63, 64, 65, 66, 67, 68] rfl (by decide +kernel) (by decide +kernel)
set_option maxRecDepth 20000 in
theorem gL_law_X10_least : GoodIn wsL_law (wsV RL 106 RX10 yX10_least wsX10_least) := goodIn_app (goodIn_k2 _ [5, 660, 0, 0] [3, 0, 1, 2] rfl (by decide +kernel) (by decide +kernel)) ggL_law_X10_least
set_option maxRecDepth 20000 in
theorem ggL_law_X9_order : GoodIn wsL_law wsX9_order := goodIn_k2 _ [26, 0, 69, 1, 1, 0, 0, 0, 0, 2, 519, 0, 0, 0, 0, 0, 0, 0, 0, 0, 0, 0, 0, 0, 0, 0, 0, 0, 0, 0, 0, 0, 0, 0, 0, 0, 0, 0, 0, 0, 0, 0, 0, 0, 0, 0, 0, 0, 23, 0, 0, 237, 0, 0, 0, 0, 0, 0, 60, 0, 0, 0, 0, 0, 0, 0, 0, 0] [7, 1, 16, 17, 37, 9, 42, 11, 43, 10, 4, 5, 6, 8, 12, 13, 14, 15, 18, 19, 20, 21, 22, 23, 24, 25, 26, 27, 28, 29, 30, 31, 32, 33, 34, 35, 36, 38, 39, 40, 41, 44, 45, 46, 47, 48, 49, 50, 0, 2, 3, 51, 52, 53, 54, 55, 56, 57, 58, 59, 60, 61, 62, 63, 64, 65, 66, 67] rfl (by decide +kernel) (by decide +kernel)
set_option maxRecDepth 20000 in
theorem gL_law_X9_order : GoodIn wsL_law (wsV RL 107 RX9 yX9_order wsX9_order) := goodIn_app (goodIn_k2 _ [2, 683, 0, 0] [3, 0, 1, 2] rfl (by decide +kernel) (by decide +kernel)) ggL_law_X9_order
