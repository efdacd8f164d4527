set_option maxRecDepth 20000 in
theorem ggL_law_X10_order : GoodIn wsL_law wsX10_order := goodIn_k _ [5, 149, 0, 0, 0, 436, 23, 0, 0, 0, 47, 0, 0, 0, 0, 0, 0, 0, 0, 0, 0, 0, 0, 0, 0, 0, 9, 240, 0, 0, 0, 0, 0, 0, 0, 0, 0, 0, 0, 0, 0, 0, 0, 0, 0, 0, 0, 0, 0, 0, 0, 0, 0, 0, 0, 0, 0, 0, 0, 0, 0, 0, 0, 0, 0, 0, 0, 0, 0] [26, 10, 11, 12, 0, 13, 5, 3, 4, 14, 15, 16, 17, 18, 19, 20, 21, 1, 2, 6, 7, 8, 9, 22, 23, 24, 25, 27, 28, 29, 30, 31, 32, 33, 34, 35, 36, 37, 38, 39, 40, 41, 42, 43, 44, 45, 46, 47, 48, 49, 50, 51, 52, 53, 54, 55, 56, 57, 58, 59, 60, 61, 62, 63, 64, 65, 66, 67, 68] rfl (by decide +kernel)
set_option maxRecDepth 20000 in
theorem gL_law_X10_order : GoodIn wsL_law (wsV RL 110 RX10 yX10_order wsX10_order) := goodIn_app (goodIn_k _ [5, 686, 0, 0] [1, 2, 3, 0] rfl (by decide +kernel)) ggL_law_X10_order
set_option maxRecDepth 20000 in
theorem ggL_law_X9_rule : GoodIn wsL_law wsX9_rule := goodIn_k _ [30, 0, 85, 0, 0, 126, 452, 0, 0, 0, 0, 0, 0, 0, 0, 0, 220, 0, 0, 0, 0, 0, 0, 70, 0, 0, 0, 0, 0, 0, 0] [6, 7, 5, 1, 8, 9, 10, 11, 12, 13, 14, 0, 15, 2, 3, 4, 16, 17, 18, 19, 20, 21, 22, 23, 24, 25, 26, 27, 28, 29, 30] rfl (by decide +kernel)
set_option maxRecDepth 20000 in
theorem gL_law_X9_rule : GoodIn wsL_law (wsV RL 111 RX9 yX9_rule wsX9_rule) := goodIn_app (goodIn_k _ [2, 693, 0, 0] [1, 2, 3, 0] rfl (by decide +kernel)) ggL_law_X9_rule
set_option maxRecDepth 20000 in
theorem ggL_law_X10_rule : GoodIn wsL_law wsX10_rule := goodIn_k _ [5, 153, 0, 0, 1, 0, 24, 0, 0, 0, 117, 401, 0, 0, 0, 0, 0, 0, 0, 0, 215, 0, 0, 0, 0, 0, 0, 0, 0, 0, 0, 0, 0, 0, 0, 0, 0, 0, 0, 0, 0, 0, 0, 0, 0, 0, 0, 0, 0, 0, 0, 0, 0, 0, 0, 0, 0, 0, 0, 0, 0, 0] [11, 12, 13, 6, 10, 1, 2, 3, 4, 7, 8, 0, 9, 14, 15, 16, 17, 18, 19, 5, 20, 21, 22, 23, 24, 25, 26, 27, 28, 29, 30, 31, 32, 33, 34, 35, 36, 37, 38, 39, 40, 41, 42, 43, 44, 45, 46, 47, 48, 49, 50, 51, 52, 53, 54, 55, 56, 57, 58, 59, 60, 61] rfl (by decide +kernel)
set_option maxRecDepth 20000 in
theorem gL_law_X10_rule : GoodIn wsL_law (wsV RL 114 RX10 yX10_rule wsX10_rule) := goodIn_app (goodIn_k _ [5, 703, 0, 0] [1, 2, 3, 0] rfl (by decide +kernel)) ggL_law_X10_rule
set_option maxRecDepth 20000 in
theorem ggL_law_X9_come : GoodIn wsL_law wsX9_come := goodIn_k _ [2, 27, 0, 80, 0, 0, 1, 0, 0, 0, 1, 58, 0, 0, 60, 0, 0, 0, 18, 0, 13, 6, 6, 0, 1, 0, 213, 0, 74, 0, 134, 0, 0, 0, 0, 0, 0, 0, 0, 0, 0, 0, 0, 0, 0, 0, 0, 0, 0, 0, 0, 0, 0, 0, 0, 0, 0, 0, 177, 0, 0, 0, 0, 0, 0, 70, 0, 0, 0, 0, 0, 0, 0] [30, 2, 31, 14, 15, 0, 16, 17, 11, 12, 13, 32, 33, 34, 1, 35, 10, 8, 9, 7, 5, 18, 19, 36, 37, 38, 39, 40, 22, 20, 23, 6, 41, 42, 43, 44, 3, 4, 45, 46, 47, 48, 49, 50, 51, 28, 29, 52, 24, 25, 53, 54, 55, 56, 57, 26, 21, 27, 58, 59, 60, 61, 62, 63, 64, 65, 66, 67, 68, 69, 70, 71, 72] rfl (by decide +kernel)
set_option maxRecDepth 20000 in
theorem gL_law_X9_come : GoodIn wsL_law (wsV RL 115 RX9 yX9_come wsX9_come) := goodIn_app (goodIn_k _ [2, 718, 0, 0] [1, 2, 3, 0] rfl (by decide +kernel)) ggL_law_X9_come
set_option maxRecDepth 20000 in
theorem ggL_law_X10_come : GoodIn wsL_law wsX10_come := goodIn_k _ [5, 153, 0, 0, 1, 0, 0, 24, 0, 0, 113, 0, 0, 0, 0, 408, 0, 34, 0, 0, 0, 0, 176, 0, 0, 0, 0, 0, 0, 0, 0, 0, 0, 0, 0, 0, 0, 0, 0, 0, 0, 0, 0, 0, 0, 0, 0, 0, 0, 0, 0, 0, 0, 0, 0, 0, 0, 0, 0, 0, 0, 0, 0, 0] [17, 15, 6, 16, 4, 5, 3, 10, 11, 0, 12, 13, 14, 7, 8, 9, 18, 19, 20, 21, 1, 2, 22, 23, 24, 25, 26, 27, 28, 29, 30, 31, 32, 33, 34, 35, 36, 37, 38, 39, 40, 41, 42, 43, 44, 45, 46, 47, 48, 49, 50, 51, 52, 53, 54, 55, 56, 57, 58, 59, 60, 61, 62, 63] rfl (by decide +kernel)
set_option maxRecDepth 20000 in
theorem gL_law_X10_come : GoodIn wsL_law (wsV RL 118 RX10 yX10_come wsX10_come) := goodIn_app (goodIn_k _ [5, 746, 0, 0] [1, 2, 3, 0] rfl (by decide +kernel)) ggL_law_X10_come
set_option maxRecDepth 20000 in
theorem ggL_law_X9_settled : GoodIn wsL_law wsX9_settled := goodIn_k _ [30, 0, 80, 5, 2, 165, 224, 0, 211, 21, 0, 0, 0, 0, 11, 0, 0, 0, 0, 0, 0, 159, 0, 0, 0, 0, 0, 0, 70, 0, 0, 0, 0, 0, 0, 0] [14, 1, 8, 15, 16, 17, 18, 19, 0, 20, 2, 9, 10, 11, 12, 4, 3, 13, 6, 5, 7, 21, 22, 23, 24, 25, 26, 27, 28, 29, 30, 31, 32, 33, 34, 35] rfl (by decide +kernel)
set_option maxRecDepth 20000 in
theorem gL_law_X9_settled : GoodIn wsL_law (wsV RL 119 RX9 yX9_settled wsX9_settled) := goodIn_app (goodIn_k _ [2, 757, 0, 0] [1, 2, 3, 0] rfl (by decide +kernel)) ggL_law_X9_settled
set_option maxRecDepth 20000 in
theorem ggL_law_X10_settled : GoodIn wsL_law wsX10_settled := goodIn_k _ [5, 153, 4, 0, 24, 0, 0, 9, 516, 0, 52, 0, 161, 0, 0, 0, 0, 0, 0, 0, 0, 0, 0, 0, 0, 0, 0, 0, 0, 0, 0, 0, 0, 0, 0, 0, 0, 0, 0, 0, 0, 0, 0, 0, 0, 0, 0, 0, 0, 0, 0, 0, 0, 0] [10, 11, 7, 9, 1, 8, 3, 2, 4, 5, 0, 6, 12, 13, 14, 15, 16, 17, 18, 19, 20, 21, 22, 23, 24, 25, 26, 27, 28, 29, 30, 31, 32, 33, 34, 35, 36, 37, 38, 39, 40, 41, 42, 43, 44, 45, 46, 47, 48, 49, 50, 51, 52, 53] rfl (by decide +kernel)
set_option maxRecDepth 20000 in
theorem gL_law_X10_settled : GoodIn wsL_law (wsV RL 122 RX10 yX10_settled wsX10_settled) := goodIn_app (goodIn_k _ [5, 764, 0, 0] [1, 2, 3, 0] rfl (by decide +kernel)) ggL_law_X10_settled
set_option maxRecDepth 20000 in
theorem ggL_law_X9_anew : GoodIn wsL_law wsX9_anew := goodIn_k _ [30, 0, 85, 0, 0, 585, 0, 0, 0, 55, 13, 150, 0, 0, 0, 0, 0, 0, 70, 0, 0, 0, 0, 0, 0, 0] [10, 1, 9, 5, 6, 7, 0, 8, 2, 3, 4, 11, 12, 13, 14, 15, 16, 17, 18, 19, 20, 21, 22, 23, 24, 25] rfl (by decide +kernel)
set_option maxRecDepth 20000 in
theorem gL_law_X9_anew : GoodIn wsL_law (wsV RL 123 RX9 yX9_anew wsX9_anew) := goodIn_app (goodIn_k _ [2, 772, 0, 0] [1, 2, 3, 0] rfl (by decide +kernel)) ggL_law_X9_anew
set_option maxRecDepth 20000 in
theorem ggL_law_X10_anew : GoodIn wsL_law wsX10_anew := goodIn_k _ [5, 158, 550, 0, 0, 0, 0, 0, 61, 153, 0, 0, 0, 0, 0, 0, 0, 0, 0, 0, 0, 0, 0, 0, 0, 0, 0, 0, 0, 0, 0, 0, 0, 0, 0, 0, 0, 0, 0, 0, 0, 0, 0, 0, 0, 0, 0, 0, 0, 0, 0] [8, 7, 2, 3, 4, 0, 5, 6, 1, 9, 10, 11, 12, 13, 14, 15, 16, 17, 18, 19, 20, 21, 22, 23, 24, 25, 26, 27, 28, 29, 30, 31, 32, 33, 34, 35, 36, 37, 38, 39, 40, 41, 42, 43, 44, 45, 46, 47, 48, 49, 50] rfl (by decide +kernel)
set_option maxRecDepth 20000 in
theorem gL_law_X10_anew : GoodIn wsL_law (wsV RL 126 RX10 yX10_anew wsX10_anew) := goodIn_app (goodIn_k _ [5, 773, 0, 0] [1, 2, 3, 0] rfl (by decide +kernel)) ggL_law_X10_anew
