set_option maxRecDepth 20000 in
theorem ggL_law_X10_scan : GoodIn wsL_law wsX10_scan := goodIn_k2 _ [5, 161, 0, 0, 0, 0, 15, 2, 0, 0, 281, 299, 21, 13, 55, 0, 0, 0, 0, 65, 0, 0, 0, 0, 0, 0, 0, 0, 0, 0, 0, 0, 0, 0, 0, 0, 0, 0, 0, 0, 0, 0, 0, 0, 0, 0, 0, 0, 0, 0, 0, 0, 0, 0, 0, 0, 0, 0, 0, 0, 0] [13, 10, 7, 3, 5, 6, 2, 11, 12, 14, 9, 1, 4, 8, 0, 15, 16, 17, 18, 19, 20, 21, 22, 23, 24, 25, 26, 27, 28, 29, 30, 31, 32, 33, 34, 35, 36, 37, 38, 39, 40, 41, 42, 43, 44, 45, 46, 47, 48, 49, 50, 51, 52, 53, 54, 55, 56, 57, 58, 59, 60] rfl (by decide +kernel) (by decide +kernel)
set_option maxRecDepth 20000 in
theorem gL_law_X10_scan : GoodIn wsL_law (wsV RL 147 RX10 yX10_scan wsX10_scan) := goodIn_app (goodIn_k2 _ [5, 857, 0, 0] [3, 0, 1, 2] rfl (by decide +kernel) (by decide +kernel)) ggL_law_X10_scan
set_option maxRecDepth 20000 in
theorem ggL_law_X9_force : GoodIn wsL_law wsX9_force := goodIn_k2 _ [34, 0, 89, 1, 0, 745, 0, 0, 0, 0, 50, 0, 0, 0, 0, 0, 0, 78, 0, 0, 0] [5, 1, 7, 9, 8, 0, 2, 3, 4, 6, 10, 11, 12, 13, 14, 15, 16, 17, 18, 19, 20] rfl (by decide +kernel) (by decide +kernel)
set_option maxRecDepth 20000 in
theorem gL_law_X9_force : GoodIn wsL_law (wsV RL 148 RX9 yX9_force wsX9_force) := goodIn_app (goodIn_k2 _ [2, 868, 0, 0] [3, 0, 1, 2] rfl (by decide +kernel) (by decide +kernel)) ggL_law_X9_force
set_option maxRecDepth 20000 in
theorem ggL_law_X10_force : GoodIn wsL_law wsX10_force := goodIn_k2 _ [166, 0, 0, 627, 85, 53, 0, 0, 0, 0, 0, 0, 0, 0, 0, 0, 0, 0, 0, 0, 0, 0, 0, 0, 0, 0, 0, 0, 0, 0, 0, 0, 0, 0, 0, 0, 0, 0, 0, 0, 0, 0, 0, 0, 0, 0, 0] [3, 4, 2, 1, 0, 5, 6, 7, 8, 9, 10, 11, 12, 13, 14, 15, 16, 17, 18, 19, 20, 21, 22, 23, 24, 25, 26, 27, 28, 29, 30, 31, 32, 33, 34, 35, 36, 37, 38, 39, 40, 41, 42, 43, 44, 45, 46] rfl (by decide +kernel) (by decide +kernel)
set_option maxRecDepth 20000 in
theorem gL_law_X10_force : GoodIn wsL_law (wsV RL 151 RX10 yX10_force wsX10_force) := goodIn_app (goodIn_k2 _ [5, 873, 0, 0] [3, 0, 1, 2] rfl (by decide +kernel) (by decide +kernel)) ggL_law_X10_force
set_option maxRecDepth 20000 in
theorem ggL_law_X9_check : GoodIn wsL_law wsX9_check := goodIn_k2 _ [2, 31, 0, 89, 0, 0, 0, 51, 0, 0, 63, 33, 6, 6, 0, 1, 0, 205, 0, 82, 0, 110, 158, 0, 0, 0, 13, 0, 0, 7, 0, 0, 0, 0, 0, 0, 0, 0, 0, 0, 0, 0, 0, 29, 0, 0, 0, 0, 0, 0, 78, 0, 0, 0] [6, 11, 3, 13, 14, 28, 27, 4, 5, 7, 2, 21, 41, 20, 22, 34, 35, 40, 42, 37, 38, 1, 8, 9, 10, 12, 24, 25, 26, 0, 15, 16, 17, 18, 19, 23, 29, 30, 31, 32, 33, 36, 39, 43, 44, 45, 46, 47, 48, 49, 50, 51, 52, 53] rfl (by decide +kernel) (by decide +kernel)
set_option maxRecDepth 20000 in
theorem gL_law_X9_check : GoodIn wsL_law (wsV RL 152 RX9 yX9_check wsX9_check) := goodIn_app (goodIn_k2 _ [2, 880, 0, 0] [3, 0, 1, 2] rfl (by decide +kernel) (by decide +kernel)) ggL_law_X9_check
set_option maxRecDepth 20000 in
theorem ggL_law_X10_check : GoodIn wsL_law wsX10_check := goodIn_k2 _ [5, 160, 0, 0, 21, 0, 0, 113, 0, 0, 0, 0, 11, 0, 0, 149, 239, 81, 13, 56, 0, 0, 0, 9, 0, 0, 20, 0, 31, 0, 0, 0, 0, 0, 0, 0, 0, 0, 0, 0, 0, 0, 0, 0, 0, 0, 0, 0, 0, 0, 0, 0, 0, 0, 0, 0, 0, 0, 0, 0, 0, 0, 0, 0, 0, 0, 0, 0, 0, 0] [9, 3, 4, 20, 13, 14, 15, 7, 8, 10, 11, 12, 25, 26, 27, 5, 1, 2, 6, 16, 17, 18, 19, 22, 23, 24, 0, 21, 28, 29, 30, 31, 32, 33, 34, 35, 36, 37, 38, 39, 40, 41, 42, 43, 44, 45, 46, 47, 48, 49, 50, 51, 52, 53, 54, 55, 56, 57, 58, 59, 60, 61, 62, 63, 64, 65, 66, 67, 68, 69] rfl (by decide +kernel) (by decide +kernel)
set_option maxRecDepth 20000 in
theorem gL_law_X10_check : GoodIn wsL_law (wsV RL 155 RX10 yX10_check wsX10_check) := goodIn_app (goodIn_k2 _ [5, 894, 0, 0] [3, 0, 1, 2] rfl (by decide +kernel) (by decide +kernel)) ggL_law_X10_check
set_option maxRecDepth 20000 in
theorem ggL_law_X9_fill : GoodIn wsL_law wsX9_fill := goodIn_k2 _ [2, 31, 0, 89, 0, 0, 0, 51, 0, 0, 63, 40, 216, 0, 298, 0, 52, 0, 0, 0, 0, 13, 0, 0, 13, 6, 8, 0, 0, 0, 0, 16, 0, 0, 0, 0, 0, 0, 78, 0, 0, 0] [5, 10, 2, 12, 13, 23, 18, 3, 4, 6, 1, 26, 25, 27, 29, 30, 28, 7, 8, 9, 11, 20, 21, 22, 19, 24, 0, 14, 15, 16, 17, 31, 32, 33, 34, 35, 36, 37, 38, 39, 40, 41] rfl (by decide +kernel) (by decide +kernel)
set_option maxRecDepth 20000 in
theorem gL_law_X9_fill : GoodIn wsL_law (wsV RL 156 RX9 yX9_fill wsX9_fill) := goodIn_app (goodIn_k2 _ [2, 902, 0, 0] [3, 0, 1, 2] rfl (by decide +kernel) (by decide +kernel)) ggL_law_X9_fill
set_option maxRecDepth 20000 in
theorem ggL_law_X10_fill : GoodIn wsL_law wsX10_fill := goodIn_k2 _ [5, 160, 0, 0, 18, 2, 0, 0, 113, 0, 0, 0, 0, 11, 0, 0, 149, 321, 13, 56, 0, 0, 0, 9, 0, 0, 21, 11, 19, 0, 0, 0, 0, 0, 0, 0, 0, 0, 0, 0, 0, 0, 0, 0, 0, 0, 0, 0, 0, 0, 0, 0, 0, 0, 0, 0, 0, 0, 0, 0, 0, 0, 0, 0, 0, 0, 0, 0, 0, 0] [8, 2, 24, 1, 3, 12, 13, 14, 6, 7, 9, 10, 11, 25, 26, 27, 5, 19, 4, 15, 16, 17, 18, 21, 22, 23, 20, 0, 28, 29, 30, 31, 32, 33, 34, 35, 36, 37, 38, 39, 40, 41, 42, 43, 44, 45, 46, 47, 48, 49, 50, 51, 52, 53, 54, 55, 56, 57, 58, 59, 60, 61, 62, 63, 64, 65, 66, 67, 68, 69] rfl (by decide +kernel) (by decide +kernel)
set_option maxRecDepth 20000 in
theorem gL_law_X10_fill : GoodIn wsL_law (wsV RL 159 RX10 yX10_fill wsX10_fill) := goodIn_app (goodIn_k2 _ [5, 907, 0, 0] [3, 0, 1, 2] rfl (by decide +kernel) (by decide +kernel)) ggL_law_X10_fill
set_option maxRecDepth 20000 in
theorem ggL_law_X9_count : GoodIn wsL_law wsX9_count := goodIn_k2 _ [19, 3, 2, 0, 6, 0, 61, 1, 25, 0, 213, 70, 165, 209, 71, 0, 0, 0, 57, 0, 0, 0, 0, 4, 0, 0, 0, 0, 0, 0, 49, 0, 0, 0, 0, 0, 0, 0, 0, 0, 0, 0, 0, 0, 0, 0, 0, 0, 0, 0, 0, 8, 0, 0, 0] [1, 3, 12, 5, 19, 7, 14, 15, 21, 22, 2, 4, 6, 8, 16, 17, 18, 20, 0, 9, 10, 11, 13, 23, 24, 25, 26, 27, 28, 29, 30, 31, 32, 33, 34, 35, 36, 37, 38, 39, 40, 41, 42, 43, 44, 45, 46, 47, 48, 49, 50, 51, 52, 53, 54] rfl (by decide +kernel) (by decide +kernel)
set_option maxRecDepth 20000 in
theorem gL_law_X9_count : GoodIn wsL_law (wsV RL 160 RX9 yX9_count wsX9_count) := goodIn_app (goodIn_k2 _ [2, 914, 0, 0] [3, 0, 1, 2] rfl (by decide +kernel) (by decide +kernel)) ggL_law_X9_count
set_option maxRecDepth 20000 in
theorem ggL_law_X10_count : GoodIn wsL_law wsX10_count := goodIn_k2 _ [5, 151, 10, 179, 83, 162, 200, 70, 0, 0, 0, 57, 7, 0, 0, 0, 0, 0, 0, 0, 0, 0, 0, 0, 0, 0, 0, 0, 0, 0, 0, 0, 0, 0, 0, 0, 0, 0, 0, 0, 0, 0, 0, 0, 0, 0, 0, 0, 0, 0, 0, 0, 0, 0] [9, 2, 11, 3, 4, 1, 5, 6, 7, 8, 10, 0, 12, 13, 14, 15, 16, 17, 18, 19, 20, 21, 22, 23, 24, 25, 26, 27, 28, 29, 30, 31, 32, 33, 34, 35, 36, 37, 38, 39, 40, 41, 42, 43, 44, 45, 46, 47, 48, 49, 50, 51, 52, 53] rfl (by decide +kernel) (by decide +kernel)
set_option maxRecDepth 20000 in
theorem gL_law_X10_count : GoodIn wsL_law (wsV RL 163 RX10 yX10_count wsX10_count) := goodIn_app (goodIn_k2 _ [5, 919, 0, 0] [3, 0, 1, 2] rfl (by decide +kernel) (by decide +kernel)) ggL_law_X10_count

