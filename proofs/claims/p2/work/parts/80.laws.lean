set_option maxRecDepth 20000 in
theorem wsL_law_in : ∀ w ∈ wsL_law, w ∈ lw_tbl := fun w h => (goodIn_p wsL_law [58, 61, 66, 75, 123, 148, 155, 207, 253, 293, 316, 805, 353, 356, 359, 938, 942, 363, 948, 367, 370, 375, 379, 955, 958, 964, 968, 383, 386, 391, 395, 399, 403, 406, 411, 414, 423, 426, 418, 430, 434, 437, 973, 976, 982, 986, 989, 992, 441, 996, 445, 1000, 450, 455, 468, 459, 463, 471, 1004, 1008, 475, 479, 1012, 486, 1016, 490, 493, 498, 502, 1020, 506, 1029, 1033, 510, 1037, 514, 1041, 518, 1045, 522, 526, 530, 534, 537, 540, 543, 548, 553, 557, 1051, 1055, 1059, 1063, 1067, 561, 565, 570, 1071, 1075, 574, 578, 1080, 582, 586, 590, 594, 1085, 598, 1090, 1094, 602, 1098, 1102, 606, 610, 614, 618, 621, 624, 628, 633, 637, 640, 1106, 1110, 1114, 1118, 1122, 647, 1126, 651, 656, 1130, 1136, 660, 664, 669, 674, 678, 684, 1140, 1144, 691, 695, 1148, 699, 1153, 703, 707, 1157, 711, 714, 1161, 719, 722, 726, 1166, 730, 734, 738, 1170, 742, 746, 750, 754, 759, 1174, 1178, 763, 767, 1182, 771, 775, 781, 1186, 788, 792, 1191, 796, 800, 1195] (by decide +kernel) (by decide +kernel) w h).1
theorem inlX0 : ∀ w ∈ wsX00, w ∈ wsL_law := fun _ h => List.mem_append_left _ (List.mem_append_left _ (List.mem_append_left _ (List.mem_append_left _ (List.mem_append_left _ (List.mem_append_left _ (List.mem_append_left _ (List.mem_append_left _ (List.mem_append_left _ (List.mem_append_right _ h)))))))))
theorem inX0 : ∀ w ∈ wsX00, w ∈ lw_tbl := fun w h => wsL_law_in w (inlX0 w h)
theorem inlX1 : ∀ w ∈ wsX10, w ∈ wsL_law := fun _ h => List.mem_append_left _ (List.mem_append_left _ (List.mem_append_left _ (List.mem_append_left _ (List.mem_append_left _ (List.mem_append_left _ (List.mem_append_left _ (List.mem_append_left _ (List.mem_append_right _ h))))))))
theorem inX1 : ∀ w ∈ wsX10, w ∈ lw_tbl := fun w h => wsL_law_in w (inlX1 w h)
theorem inlX2 : ∀ w ∈ wsX20, w ∈ wsL_law := fun _ h => List.mem_append_left _ (List.mem_append_right _ h)
theorem inX2 : ∀ w ∈ wsX20, w ∈ lw_tbl := fun w h => wsL_law_in w (inlX2 w h)
theorem inlX3 : ∀ w ∈ wsX30, w ∈ wsL_law := fun _ h => List.mem_append_left _ (List.mem_append_left _ (List.mem_append_left _ (List.mem_append_left _ (List.mem_append_left _ (List.mem_append_left _ (List.mem_append_left _ (List.mem_append_right _ h)))))))
theorem inX3 : ∀ w ∈ wsX30, w ∈ lw_tbl := fun w h => wsL_law_in w (inlX3 w h)
theorem inlX4 : ∀ w ∈ wsX40, w ∈ wsL_law := fun _ h => List.mem_append_left _ (List.mem_append_left _ (List.mem_append_right _ h))
theorem inX4 : ∀ w ∈ wsX40, w ∈ lw_tbl := fun w h => wsL_law_in w (inlX4 w h)
theorem inlX5 : ∀ w ∈ wsX50, w ∈ wsL_law := fun _ h => List.mem_append_left _ (List.mem_append_left _ (List.mem_append_left _ (List.mem_append_left _ (List.mem_append_left _ (List.mem_append_left _ (List.mem_append_right _ h))))))
theorem inX5 : ∀ w ∈ wsX50, w ∈ lw_tbl := fun w h => wsL_law_in w (inlX5 w h)
theorem inlX6 : ∀ w ∈ wsX60, w ∈ wsL_law := fun _ h => List.mem_append_left _ (List.mem_append_left _ (List.mem_append_left _ (List.mem_append_left _ (List.mem_append_left _ (List.mem_append_right _ h)))))
theorem inX6 : ∀ w ∈ wsX60, w ∈ lw_tbl := fun w h => wsL_law_in w (inlX6 w h)
theorem inlX7 : ∀ w ∈ wsX70, w ∈ wsL_law := fun _ h => List.mem_append_left _ (List.mem_append_left _ (List.mem_append_left _ (List.mem_append_right _ h)))
theorem inX7 : ∀ w ∈ wsX70, w ∈ lw_tbl := fun w h => wsL_law_in w (inlX7 w h)
theorem inlX8 : ∀ w ∈ wsX80, w ∈ wsL_law := fun _ h => List.mem_append_left _ (List.mem_append_left _ (List.mem_append_left _ (List.mem_append_left _ (List.mem_append_right _ h))))
theorem inX8 : ∀ w ∈ wsX80, w ∈ lw_tbl := fun w h => wsL_law_in w (inlX8 w h)
theorem inlX9 : ∀ w ∈ wsX90, w ∈ wsL_law := fun _ h => List.mem_append_left _ (List.mem_append_left _ (List.mem_append_left _ (List.mem_append_left _ (List.mem_append_left _ (List.mem_append_left _ (List.mem_append_left _ (List.mem_append_left _ (List.mem_append_left _ (List.mem_append_left _ (List.mem_append_left _ (List.mem_append_right _ h)))))))))))
theorem inX9 : ∀ w ∈ wsX90, w ∈ lw_tbl := fun w h => wsL_law_in w (inlX9 w h)
theorem inlX10 : ∀ w ∈ wsX100, w ∈ wsL_law := fun _ h => List.mem_append_left _ (List.mem_append_left _ (List.mem_append_left _ (List.mem_append_left _ (List.mem_append_left _ (List.mem_append_left _ (List.mem_append_left _ (List.mem_append_left _ (List.mem_append_left _ (List.mem_append_left _ (List.mem_append_right _ h))))))))))
theorem inX10 : ∀ w ∈ wsX100, w ∈ lw_tbl := fun w h => wsL_law_in w (inlX10 w h)
theorem inJ6 : ∀ w ∈ wsJ60, w ∈ lw_tbl := by decide +kernel
theorem inJ9 : ∀ w ∈ wsJ90, w ∈ lw_tbl := by decide +kernel
set_option maxRecDepth 20000 in
theorem ggL_law_X9_init : GoodIn wsL_law wsX9_init := goodIn_r _ [8, 9, 10, 11, 12, 13, 14, 15, 16, 17, 18, 19, 20, 21, 22, 23, 24, 25, 26, 27, 28, 29, 30, 31, 32, 33, 34, 35, 36, 37, 38, 39, 40, 41, 42, 43, 44, 45, 46, 47, 48, 49, 50, 51, 52, 53, 54, 55, 56, 57, 58, 59, 60, 61, 62, 63, 64, 65, 66, 67, 68, 69, 70, 71, 72, 73, 74, 75, 76, 77, 78, 79, 80, 81, 82, 83, 84, 85, 86, 87, 88, 89, 90, 91, 92, 93, 94, 95, 96, 97, 98, 99, 100, 101, 102, 103, 104, 105, 106, 107, 108, 109, 110, 111, 112, 113, 114, 115, 116, 117, 118, 119, 120, 121, 122, 123, 124, 125, 126, 127, 128, 129, 130, 131, 132, 133, 134, 978, 979, 980, 981, 982, 983, 984, 929, 930, 931, 932, 933, 934, 935, 985, 986, 987, 988, 989, 990, 991, 992, 993, 994, 995, 996, 997, 998, 999, 1000, 1001, 1002, 1003, 1004, 1005, 1006, 1007, 1008, 1009, 1010, 1011, 1012, 1013, 1014, 1015, 1016, 1017, 1018, 1019, 1020, 1021, 1022, 1023, 1024, 1025, 1026, 1027] (by decide +kernel) (by decide +kernel)
set_option maxRecDepth 20000 in
theorem gL_law_X9_init : GoodIn wsL_law (wsX9_init) := ggL_law_X9_init
set_option maxRecDepth 20000 in
theorem ggL_law_X10_init : GoodIn wsL_law wsX10_init := goodIn_r _ [137, 138, 10, 11, 44, 139, 140, 60, 141, 142, 143, 144, 145, 146, 147, 148, 149, 98, 150, 151, 152, 153, 154, 155, 156, 157, 158, 159, 160, 161, 162, 163, 164, 165, 166, 167, 168, 169, 170, 171, 936, 937, 938, 939, 940, 941, 942, 943, 944, 945, 946, 947, 948, 949, 950, 951, 952, 953, 954, 955, 956, 957, 958, 959, 960, 961, 962, 963, 964, 965, 966, 967, 968, 969, 970, 971, 972, 973, 974, 975, 976, 977] (by decide +kernel) (by decide +kernel)
set_option maxRecDepth 20000 in
theorem gL_law_X10_init : GoodIn wsL_law (wsX10_init) := ggL_law_X10_init
set_option maxRecDepth 20000 in
theorem ggL_law_X9_first : GoodIn wsL_law wsX9_first := goodIn_r _ [175, 15, 176, 177, 178, 2, 179, 180, 181, 182, 929, 930, 931, 932, 933, 934, 935, 978, 979, 980, 981, 982, 983, 984] (by decide +kernel) (by decide +kernel)
set_option maxRecDepth 20000 in
theorem gL_law_X9_first : GoodIn wsL_law (wsV RL 13 RX9 yX9_first wsX9_first) := goodIn_app (goodIn_of _ (by decide +kernel)) ggL_law_X9_first
set_option maxRecDepth 20000 in
theorem ggL_law_X10_first : GoodIn wsL_law wsX10_first := goodIn_r _ [186, 187, 188, 189, 139, 190, 191, 5, 192, 936, 937, 938, 939, 940, 941, 942, 943, 944, 945, 946, 947, 948, 949, 950, 951, 952, 953, 954, 955, 956, 957, 958, 959, 960, 961, 962, 963, 964, 965, 966, 967, 968, 969, 970, 971, 972, 973, 974, 975, 976, 977] (by decide +kernel) (by decide +kernel)
set_option maxRecDepth 20000 in
theorem gL_law_X10_first : GoodIn wsL_law (wsV RL 17 RX10 yX10_first wsX10_first) := goodIn_app (goodIn_of _ (by decide +kernel)) ggL_law_X10_first
set_option maxRecDepth 20000 in
theorem ggL_law_X9_second : GoodIn wsL_law wsX9_second := goodIn_r _ [196, 15, 197, 177, 178, 2, 179, 180, 181, 182, 929, 930, 931, 932, 933, 934, 935, 978, 979, 980, 981, 982, 983, 984] (by decide +kernel) (by decide +kernel)
set_option maxRecDepth 20000 in
theorem gL_law_X9_second : GoodIn wsL_law (wsV RL 18 RX9 yX9_second wsX9_second) := goodIn_app (goodIn_of _ (by decide +kernel)) ggL_law_X9_second
set_option maxRecDepth 20000 in
theorem ggL_law_X10_second : GoodIn wsL_law wsX10_second := goodIn_r _ [201, 187, 202, 203, 204, 140, 190, 191, 5, 192, 936, 937, 938, 939, 940, 941, 942, 943, 944, 945, 946, 947, 948, 949, 950, 951, 952, 953, 954, 955, 956, 957, 958, 959, 960, 961, 962, 963, 964, 965, 966, 967, 968, 969, 970, 971, 972, 973, 974, 975, 976, 977] (by decide +kernel) (by decide +kernel)
set_option maxRecDepth 20000 in
theorem gL_law_X10_second : GoodIn wsL_law (wsV RL 21 RX10 yX10_second wsX10_second) := goodIn_app (goodIn_of _ (by decide +kernel)) ggL_law_X10_second
set_option maxRecDepth 20000 in
theorem ggL_law_X9_reading : GoodIn wsL_law wsX9_reading := goodIn_r _ [208, 209, 15, 177, 178, 2, 179, 210, 211, 212, 180, 181, 182, 213, 214, 215, 14, 216, 45, 217, 218, 219, 220, 47, 929, 930, 931, 932, 933, 934, 935, 978, 979, 980, 981, 982, 983, 984] (by decide +kernel) (by decide +kernel)
set_option maxRecDepth 20000 in
theorem gL_law_X9_reading : GoodIn wsL_law (wsV RL 22 RX9 yX9_reading wsX9_reading) := goodIn_app (goodIn_of _ (by decide +kernel)) ggL_law_X9_reading
set_option maxRecDepth 20000 in
theorem ggL_law_X10_reading : GoodIn wsL_law wsX10_reading := goodIn_r _ [224, 187, 225, 190, 191, 5, 192, 226, 227, 228, 229, 230, 231, 232, 233, 234, 139, 235, 236, 237, 238, 140, 936, 937, 938, 939, 940, 941, 942, 943, 944, 945, 946, 947, 948, 949, 950, 951, 952, 953, 954, 955, 956, 957, 958, 959, 960, 961, 962, 963, 964, 965, 966, 967, 968, 969, 970, 971, 972, 973, 974, 975, 976, 977] (by decide +kernel) (by decide +kernel)
set_option maxRecDepth 20000 in
theorem gL_law_X10_reading : GoodIn wsL_law (wsV RL 26 RX10 yX10_reading wsX10_reading) := goodIn_app (goodIn_of _ (by decide +kernel)) ggL_law_X10_reading
set_option maxRecDepth 20000 in
theorem ggL_law_X9_back : GoodIn wsL_law wsX9_back := goodIn_r _ [242, 15, 243, 244, 2, 245, 246, 180, 181, 182, 247, 248, 249, 14, 250, 55, 51, 48, 49, 251, 50, 252, 253, 254, 255, 256, 45, 257, 258, 259, 54, 260, 261, 262, 263, 264, 62, 61, 265, 266, 267, 268, 269, 270, 271, 217, 218, 219, 220, 47, 272, 273, 274, 275, 276, 277, 278, 279, 280, 281, 282, 283, 284, 285, 286, 287, 288, 289, 290, 291, 292, 293, 294, 295, 296, 297, 298, 299, 214, 215, 216, 929, 930, 931, 932, 933, 934, 935, 978, 979, 980, 981, 982, 983, 984, 1021, 1022] (by decide +kernel) (by decide +kernel)
set_option maxRecDepth 20000 in
theorem gL_law_X9_back : GoodIn wsL_law (wsV RL 27 RX9 yX9_back wsX9_back) := goodIn_app (goodIn_of _ (by decide +kernel)) ggL_law_X9_back
set_option maxRecDepth 20000 in
theorem ggL_law_X10_back : GoodIn wsL_law wsX10_back := goodIn_r _ [303, 230, 141, 139, 143, 304, 142, 305, 306, 307, 5, 308, 309, 310, 190, 191, 192, 311, 312, 313, 314, 235, 236, 237, 238, 140, 315, 316, 317, 318, 319, 320, 321, 189, 187, 229, 322, 323, 324, 231, 232, 233, 234, 936, 937, 938, 939, 940, 941, 942, 943, 944, 945, 946, 947, 948, 949, 950, 951, 952, 953, 954, 955, 956, 957, 958, 959, 960, 961, 962, 963, 964, 965, 966, 967, 968, 969, 970, 971, 972, 973, 974, 975, 976, 977] (by decide +kernel) (by decide +kernel)
set_option maxRecDepth 20000 in
theorem gL_law_X10_back : GoodIn wsL_law (wsV RL 30 RX10 yX10_back wsX10_back) := goodIn_app (goodIn_of _ (by decide +kernel)) ggL_law_X10_back
set_option maxRecDepth 20000 in
theorem ggL_law_X9_found : GoodIn wsL_law wsX9_found := goodIn_r _ [328, 15, 329, 330, 331, 177, 178, 2, 179, 929, 930, 931, 932, 933, 934, 935, 978, 979, 980, 981, 982, 983, 984] (by decide +kernel) (by decide +kernel)
set_option maxRecDepth 20000 in
theorem gL_law_X9_found : GoodIn wsL_law (wsV RL 31 RX9 yX9_found wsX9_found) := goodIn_app (goodIn_of _ (by decide +kernel)) ggL_law_X9_found
set_option maxRecDepth 20000 in
theorem ggL_law_X10_found : GoodIn wsL_law wsX10_found := goodIn_r _ [335, 187, 143, 304, 305, 190, 191, 5, 192, 936, 937, 938, 939, 940, 941, 942, 943, 944, 945, 946, 947, 948, 949, 950, 951, 952, 953, 954, 955, 956, 957, 958, 959, 960, 961, 962, 963, 964, 965, 966, 967, 968, 969, 970, 971, 972, 973, 974, 975, 976, 977] (by decide +kernel) (by decide +kernel)
set_option maxRecDepth 20000 in
theorem gL_law_X10_found : GoodIn wsL_law (wsV RL 35 RX10 yX10_found wsX10_found) := goodIn_app (goodIn_of _ (by decide +kernel)) ggL_law_X10_found
set_option maxRecDepth 20000 in
theorem ggL_law_X9_point : GoodIn wsL_law wsX9_point := goodIn_r _ [339, 19, 340, 341, 342, 210, 211, 2, 212, 180, 181, 182, 243, 244, 245, 246, 343, 265, 266, 929, 930, 931, 932, 933, 934, 935, 985, 986, 987, 988] (by decide +kernel) (by decide +kernel)
set_option maxRecDepth 20000 in
theorem gL_law_X9_point : GoodIn wsL_law (wsV RL 36 RX9 yX9_point wsX9_point) := goodIn_app (goodIn_of _ (by decide +kernel)) ggL_law_X9_point
set_option maxRecDepth 20000 in
theorem ggL_law_X10_point : GoodIn wsL_law wsX10_point := goodIn_r _ [347, 348, 144, 145, 226, 227, 5, 228, 229, 230, 190, 191, 192, 306, 307, 308, 309, 310, 936, 937, 938, 939, 940, 941, 942, 943, 944, 945, 946, 947, 948, 949, 950, 951, 952, 953, 954, 955, 956, 957, 958, 959, 960, 961, 962, 963, 964, 965, 966, 967, 968, 969, 970, 971, 972, 973, 974, 975, 976, 977] (by decide +kernel) (by decide +kernel)
set_option maxRecDepth 20000 in
theorem gL_law_X10_point : GoodIn wsL_law (wsV RL 40 RX10 yX10_point wsX10_point) := goodIn_app (goodIn_of _ (by decide +kernel)) ggL_law_X10_point
set_option maxRecDepth 20000 in
theorem ggL_law_X9_fit : GoodIn wsL_law wsX9_fit := goodIn_r _ [352, 353, 19, 177, 178, 2, 179, 354, 355, 356, 18, 357, 71, 358, 359, 360, 280, 361, 362, 363, 364, 365, 69, 67, 68, 366, 367, 368, 369, 370, 371, 372, 258, 259, 54, 260, 261, 262, 263, 264, 62, 61, 373, 374, 375, 929, 930, 931, 932, 933, 934, 935, 985, 986, 987, 988, 1021, 1022] (by decide +kernel) (by decide +kernel)
set_option maxRecDepth 20000 in
theorem gL_law_X9_fit : GoodIn wsL_law (wsV RL 41 RX9 yX9_fit wsX9_fit) := goodIn_app (goodIn_of _ (by decide +kernel)) ggL_law_X9_fit
set_option maxRecDepth 20000 in
theorem ggL_law_X10_fit : GoodIn wsL_law wsX10_fit := goodIn_r _ [379, 187, 380, 142, 141, 348, 144, 145, 189, 190, 191, 5, 192, 311, 312, 313, 314, 315, 316, 317, 318, 381, 382, 383, 936, 937, 938, 939, 940, 941, 942, 943, 944, 945, 946, 947, 948, 949, 950, 951, 952, 953, 954, 955, 956, 957, 958, 959, 960, 961, 962, 963, 964, 965, 966, 967, 968, 969, 970, 971, 972, 973, 974, 975, 976, 977] (by decide +kernel) (by decide +kernel)
set_option maxRecDepth 20000 in
theorem gL_law_X10_fit : GoodIn wsL_law (wsV RL 45 RX10 yX10_fit wsX10_fit) := goodIn_app (goodIn_of _ (by decide +kernel)) ggL_law_X10_fit
set_option maxRecDepth 20000 in
theorem ggL_law_X9_miss : GoodIn wsL_law wsX9_miss := goodIn_r _ [387, 19, 340, 15, 177, 178, 2, 179, 388, 389, 390, 18, 391, 69, 67, 68, 392, 294, 280, 295, 393, 297, 298, 394, 214, 215, 14, 216, 45, 217, 218, 219, 220, 47, 929, 930, 931, 932, 933, 934, 935, 985, 986, 987, 988, 978, 979, 980, 981, 982, 983, 984] (by decide +kernel) (by decide +kernel)
set_option maxRecDepth 20000 in
theorem gL_law_X9_miss : GoodIn wsL_law (wsV RL 46 RX9 yX9_miss wsX9_miss) := goodIn_app (goodIn_of _ (by decide +kernel)) ggL_law_X9_miss
set_option maxRecDepth 20000 in
theorem ggL_law_X10_miss : GoodIn wsL_law wsX10_miss := goodIn_r _ [398, 187, 348, 145, 144, 190, 191, 5, 192, 231, 232, 233, 234, 139, 235, 236, 237, 238, 140, 936, 937, 938, 939, 940, 941, 942, 943, 944, 945, 946, 947, 948, 949, 950, 951, 952, 953, 954, 955, 956, 957, 958, 959, 960, 961, 962, 963, 964, 965, 966, 967, 968, 969, 970, 971, 972, 973, 974, 975, 976, 977] (by decide +kernel) (by decide +kernel)
set_option maxRecDepth 20000 in
theorem gL_law_X10_miss : GoodIn wsL_law (wsV RL 49 RX10 yX10_miss wsX10_miss) := goodIn_app (goodIn_of _ (by decide +kernel)) ggL_law_X10_miss
set_option maxRecDepth 20000 in
theorem ggL_law_X9_forget : GoodIn wsL_law wsX9_forget := goodIn_r _ [402, 19, 340, 929, 930, 931, 932, 933, 934, 935, 985, 986, 987, 988] (by decide +kernel) (by decide +kernel)
set_option maxRecDepth 20000 in
theorem gL_law_X9_forget : GoodIn wsL_law (wsV RL 50 RX9 yX9_forget wsX9_forget) := goodIn_app (goodIn_of _ (by decide +kernel)) ggL_law_X9_forget
set_option maxRecDepth 20000 in
theorem ggL_law_X10_forget : GoodIn wsL_law wsX10_forget := goodIn_r _ [406, 348, 936, 937, 938, 939, 940, 941, 942, 943, 944, 945, 946, 947, 948, 949, 950, 951, 952, 953, 954, 955, 956, 957, 958, 959, 960, 961, 962, 963, 964, 965, 966, 967, 968, 969, 970, 971, 972, 973, 974, 975, 976, 977] (by decide +kernel) (by decide +kernel)
set_option maxRecDepth 20000 in
theorem gL_law_X10_forget : GoodIn wsL_law (wsV RL 54 RX10 yX10_forget wsX10_forget) := goodIn_app (goodIn_of _ (by decide +kernel)) ggL_law_X10_forget
set_option maxRecDepth 20000 in
theorem ggL_law_X9_correct : GoodIn wsL_law wsX9_correct := goodIn_r _ [410, 23, 411, 412, 413, 85, 414, 181, 2, 182, 415, 416, 417, 22, 418, 77, 78, 419, 420, 421, 422, 89, 90, 91, 92, 93, 929, 930, 931, 932, 933, 934, 935, 989, 990, 991, 992, 993, 994, 995, 1023, 1024, 1025, 1026, 1027] (by decide +kernel) (by decide +kernel)
set_option maxRecDepth 20000 in
theorem gL_law_X9_correct : GoodIn wsL_law (wsV RL 55 RX9 yX9_correct wsX9_correct) := goodIn_app (goodIn_of _ (by decide +kernel)) ggL_law_X9_correct
set_option maxRecDepth 20000 in
theorem ggL_law_X10_correct : GoodIn wsL_law wsX10_correct := goodIn_r _ [426, 427, 428, 429, 430, 431, 432, 146, 147, 148, 149, 150, 190, 191, 5, 192, 936, 937, 938, 939, 940, 941, 942, 943, 944, 945, 946, 947, 948, 949, 950, 951, 952, 953, 954, 955, 956, 957, 958, 959, 960, 961, 962, 963, 964, 965, 966, 967, 968, 969, 970, 971, 972, 973, 974, 975, 976, 977] (by decide +kernel) (by decide +kernel)
set_option maxRecDepth 20000 in
theorem gL_law_X10_correct : GoodIn wsL_law (wsV RL 58 RX10 yX10_correct wsX10_correct) := goodIn_app (goodIn_of _ (by decide +kernel)) ggL_law_X10_correct
set_option maxRecDepth 20000 in
theorem ggL_law_X9_turn : GoodIn wsL_law wsX9_turn := goodIn_r _ [436, 23, 411, 437, 438, 177, 178, 2, 179, 929, 930, 931, 932, 933, 934, 935, 989, 990, 991, 992, 993, 994, 995, 1023, 1024, 1025, 1026, 1027] (by decide +kernel) (by decide +kernel)
set_option maxRecDepth 20000 in
theorem gL_law_X9_turn : GoodIn wsL_law (wsV RL 59 RX9 yX9_turn wsX9_turn) := goodIn_app (goodIn_of _ (by decide +kernel)) ggL_law_X9_turn
set_option maxRecDepth 20000 in
theorem ggL_law_X10_turn : GoodIn wsL_law wsX10_turn := goodIn_r _ [442, 150, 443, 444, 445, 5, 446, 432, 190, 191, 192, 936, 937, 938, 939, 940, 941, 942, 943, 944, 945, 946, 947, 948, 949, 950, 951, 952, 953, 954, 955, 956, 957, 958, 959, 960, 961, 962, 963, 964, 965, 966, 967, 968, 969, 970, 971, 972, 973, 974, 975, 976, 977] (by decide +kernel) (by decide +kernel)
set_option maxRecDepth 20000 in
theorem gL_law_X10_turn : GoodIn wsL_law (wsV RL 63 RX10 yX10_turn wsX10_turn) := goodIn_app (goodIn_of _ (by decide +kernel)) ggL_law_X10_turn
set_option maxRecDepth 20000 in
theorem ggL_law_X9_swap : GoodIn wsL_law wsX9_swap := goodIn_r _ [450, 23, 411, 437, 177, 178, 2, 179, 929, 930, 931, 932, 933, 934, 935, 989, 990, 991, 992, 993, 994, 995] (by decide +kernel) (by decide +kernel)
set_option maxRecDepth 20000 in
theorem gL_law_X9_swap : GoodIn wsL_law (wsV RL 64 RX9 yX9_swap wsX9_swap) := goodIn_app (goodIn_of _ (by decide +kernel)) ggL_law_X9_swap
set_option maxRecDepth 20000 in
theorem ggL_law_X10_swap : GoodIn wsL_law wsX10_swap := goodIn_r _ [454, 146, 147, 148, 149, 150, 443, 444, 445, 5, 446, 432, 190, 191, 192, 936, 937, 938, 939, 940, 941, 942, 943, 944, 945, 946, 947, 948, 949, 950, 951, 952, 953, 954, 955, 956, 957, 958, 959, 960, 961, 962, 963, 964, 965, 966, 967, 968, 969, 970, 971, 972, 973, 974, 975, 976, 977] (by decide +kernel) (by decide +kernel)
set_option maxRecDepth 20000 in
theorem gL_law_X10_swap : GoodIn wsL_law (wsV RL 67 RX10 yX10_swap wsX10_swap) := goodIn_app (goodIn_of _ (by decide +kernel)) ggL_law_X10_swap
set_option maxRecDepth 20000 in
theorem ggL_law_X9_drop : GoodIn wsL_law wsX9_drop := goodIn_r _ [458, 23, 411, 929, 930, 931, 932, 933, 934, 935, 989, 990, 991, 992, 993, 994, 995] (by decide +kernel) (by decide +kernel)
set_option maxRecDepth 20000 in
theorem gL_law_X9_drop : GoodIn wsL_law (wsV RL 68 RX9 yX9_drop wsX9_drop) := goodIn_app (goodIn_of _ (by decide +kernel)) ggL_law_X9_drop
set_option maxRecDepth 20000 in
theorem ggL_law_X10_drop : GoodIn wsL_law wsX10_drop := goodIn_r _ [462, 432, 936, 937, 938, 939, 940, 941, 942, 943, 944, 945, 946, 947, 948, 949, 950, 951, 952, 953, 954, 955, 956, 957, 958, 959, 960, 961, 962, 963, 964, 965, 966, 967, 968, 969, 970, 971, 972, 973, 974, 975, 976, 977] (by decide +kernel) (by decide +kernel)
set_option maxRecDepth 20000 in
theorem gL_law_X10_drop : GoodIn wsL_law (wsV RL 71 RX10 yX10_drop wsX10_drop) := goodIn_app (goodIn_of _ (by decide +kernel)) ggL_law_X10_drop
set_option maxRecDepth 20000 in
theorem ggL_law_X9_raw : GoodIn wsL_law wsX9_raw := goodIn_r _ [466, 23, 467, 468, 469, 243, 244, 2, 245, 246, 180, 181, 182, 177, 178, 179, 343, 265, 266, 929, 930, 931, 932, 933, 934, 935, 989, 990, 991, 992, 993, 994, 995] (by decide +kernel) (by decide +kernel)
set_option maxRecDepth 20000 in
theorem gL_law_X9_raw : GoodIn wsL_law (wsV RL 72 RX9 yX9_raw wsX9_raw) := goodIn_app (goodIn_of _ (by decide +kernel)) ggL_law_X9_raw
set_option maxRecDepth 20000 in
theorem ggL_law_X10_raw : GoodIn wsL_law wsX10_raw := goodIn_r _ [473, 474, 475, 151, 476, 477, 306, 307, 5, 308, 309, 310, 190, 191, 192, 936, 937, 938, 939, 940, 941, 942, 943, 944, 945, 946, 947, 948, 949, 950, 951, 952, 953, 954, 955, 956, 957, 958, 959, 960, 961, 962, 963, 964, 965, 966, 967, 968, 969, 970, 971, 972, 973, 974, 975, 976, 977] (by decide +kernel) (by decide +kernel)
set_option maxRecDepth 20000 in
theorem gL_law_X10_raw : GoodIn wsL_law (wsV RL 76 RX10 yX10_raw wsX10_raw) := goodIn_app (goodIn_of _ (by decide +kernel)) ggL_law_X10_raw
set_option maxRecDepth 20000 in
theorem ggL_law_X9_corrected : GoodIn wsL_law wsX9_corrected := goodIn_r _ [481, 23, 411, 482, 177, 178, 2, 179, 483, 484, 485, 22, 486, 79, 487, 488, 489, 490, 77, 491, 80, 81, 492, 493, 494, 85, 495, 90, 91, 92, 93, 496, 497, 498, 499, 500, 501, 502, 503, 504, 287, 505, 506, 286, 288, 507, 508, 509, 510, 511, 512, 513, 514, 515, 516, 517, 929, 930, 931, 932, 933, 934, 935, 989, 990, 991, 992, 993, 994, 995, 1023, 1024, 1025, 1026, 1027] (by decide +kernel) (by decide +kernel)
set_option maxRecDepth 20000 in
theorem gL_law_X9_corrected : GoodIn wsL_law (wsV RL 77 RX9 yX9_corrected wsX9_corrected) := goodIn_app (goodIn_of _ (by decide +kernel)) ggL_law_X9_corrected
set_option maxRecDepth 20000 in
theorem ggL_law_X10_corrected : GoodIn wsL_law wsX10_corrected := goodIn_r _ [521, 187, 432, 150, 153, 190, 191, 5, 192, 522, 523, 524, 525, 151, 526, 527, 528, 529, 147, 148, 149, 146, 189, 477, 474, 476, 322, 323, 324, 530, 531, 532, 533, 152, 534, 535, 536, 537, 936, 937, 938, 939, 940, 941, 942, 943, 944, 945, 946, 947, 948, 949, 950, 951, 952, 953, 954, 955, 956, 957, 958, 959, 960, 961, 962, 963, 964, 965, 966, 967, 968, 969, 970, 971, 972, 973, 974, 975, 976, 977] (by decide +kernel) (by decide +kernel)
set_option maxRecDepth 20000 in
theorem gL_law_X10_corrected : GoodIn wsL_law (wsV RL 81 RX10 yX10_corrected wsX10_corrected) := goodIn_app (goodIn_of _ (by decide +kernel)) ggL_law_X10_corrected
set_option maxRecDepth 20000 in
theorem ggL_law_X9_touches : GoodIn wsL_law wsX9_touches := goodIn_r _ [541, 23, 411, 177, 178, 2, 179, 542, 543, 544, 22, 545, 82, 83, 77, 80, 81, 546, 484, 485, 486, 79, 487, 488, 489, 490, 491, 492, 493, 494, 85, 495, 90, 91, 92, 93, 496, 497, 498, 499, 500, 501, 502, 503, 504, 287, 505, 506, 286, 288, 507, 508, 509, 510, 511, 512, 513, 514, 515, 516, 517, 547, 548, 549, 550, 929, 930, 931, 932, 933, 934, 935, 989, 990, 991, 992, 993, 994, 995, 1023, 1024, 1025, 1026, 1027] (by decide +kernel) (by decide +kernel)
set_option maxRecDepth 20000 in
theorem gL_law_X9_touches : GoodIn wsL_law (wsV RL 82 RX9 yX9_touches wsX9_touches) := goodIn_app (goodIn_of _ (by decide +kernel)) ggL_law_X9_touches
set_option maxRecDepth 20000 in
theorem ggL_law_X10_touches : GoodIn wsL_law wsX10_touches := goodIn_r _ [554, 150, 432, 154, 443, 444, 445, 5, 446, 190, 191, 192, 555, 556, 557, 558, 559, 519, 520, 521, 187, 153, 522, 523, 524, 525, 151, 526, 527, 528, 529, 147, 148, 149, 146, 189, 477, 474, 476, 322, 323, 324, 530, 531, 532, 533, 152, 534, 535, 536, 537, 936, 937, 938, 939, 940, 941, 942, 943, 944, 945, 946, 947, 948, 949, 950, 951, 952, 953, 954, 955, 956, 957, 958, 959, 960, 961, 962, 963, 964, 965, 966, 967, 968, 969, 970, 971, 972, 973, 974, 975, 976, 977] (by decide +kernel) (by decide +kernel)
set_option maxRecDepth 20000 in
theorem gL_law_X10_touches : GoodIn wsL_law (wsV RL 85 RX10 yX10_touches wsX10_touches) := goodIn_app (goodIn_of _ (by decide +kernel)) ggL_law_X10_touches
set_option maxRecDepth 20000 in
theorem ggL_law_X9_minds : GoodIn wsL_law wsX9_minds := goodIn_r _ [563, 23, 411, 177, 178, 2, 179, 564, 565, 566, 22, 567, 82, 83, 546, 484, 485, 486, 79, 487, 488, 489, 490, 77, 491, 80, 81, 492, 493, 494, 85, 495, 90, 91, 92, 93, 496, 497, 498, 499, 500, 501, 502, 503, 504, 287, 505, 506, 286, 288, 507, 508, 509, 510, 511, 512, 513, 514, 515, 516, 517, 547, 548, 549, 550, 929, 930, 931, 932, 933, 934, 935, 989, 990, 991, 992, 993, 994, 995, 1023, 1024, 1025, 1026, 1027] (by decide +kernel) (by decide +kernel)
set_option maxRecDepth 20000 in
theorem gL_law_X9_minds : GoodIn wsL_law (wsV RL 86 RX9 yX9_minds wsX9_minds) := goodIn_app (goodIn_of _ (by decide +kernel)) ggL_law_X9_minds
set_option maxRecDepth 20000 in
theorem ggL_law_X10_minds : GoodIn wsL_law wsX10_minds := goodIn_r _ [571, 154, 443, 444, 445, 5, 446, 432, 190, 191, 192, 555, 556, 557, 558, 559, 519, 520, 521, 187, 150, 153, 522, 523, 524, 525, 151, 526, 527, 528, 529, 147, 148, 149, 146, 189, 477, 474, 476, 322, 323, 324, 530, 531, 532, 533, 152, 534, 535, 536, 537, 572, 452, 453, 454, 936, 937, 938, 939, 940, 941, 942, 943, 944, 945, 946, 947, 948, 949, 950, 951, 952, 953, 954, 955, 956, 957, 958, 959, 960, 961, 962, 963, 964, 965, 966, 967, 968, 969, 970, 971, 972, 973, 974, 975, 976, 977] (by decide +kernel) (by decide +kernel)
set_option maxRecDepth 20000 in
theorem gL_law_X10_minds : GoodIn wsL_law (wsV RL 89 RX10 yX10_minds wsX10_minds) := goodIn_app (goodIn_of _ (by decide +kernel)) ggL_law_X10_minds
set_option maxRecDepth 20000 in
theorem ggL_law_X9_place : GoodIn wsL_law wsX9_place := goodIn_r _ [576, 27, 577, 177, 178, 2, 179, 578, 579, 580, 26, 581, 97, 106, 107, 99, 102, 582, 583, 584, 585, 586, 294, 280, 295, 587, 588, 589, 101, 929, 930, 931, 932, 933, 934, 935, 996, 997, 998, 999, 1000, 1001, 1002, 1003, 1004, 1005] (by decide +kernel) (by decide +kernel)
set_option maxRecDepth 20000 in
theorem gL_law_X9_place : GoodIn wsL_law (wsV RL 90 RX9 yX9_place wsX9_place) := goodIn_app (goodIn_of _ (by decide +kernel)) ggL_law_X9_place
set_option maxRecDepth 20000 in
theorem ggL_law_X10_place : GoodIn wsL_law wsX10_place := goodIn_r _ [593, 475, 594, 595, 155, 156, 157, 190, 191, 5, 192, 936, 937, 938, 939, 940, 941, 942, 943, 944, 945, 946, 947, 948, 949, 950, 951, 952, 953, 954, 955, 956, 957, 958, 959, 960, 961, 962, 963, 964, 965, 966, 967, 968, 969, 970, 971, 972, 973, 974, 975, 976, 977] (by decide +kernel) (by decide +kernel)
set_option maxRecDepth 20000 in
theorem gL_law_X10_place : GoodIn wsL_law (wsV RL 94 RX10 yX10_place wsX10_place) := goodIn_app (goodIn_of _ (by decide +kernel)) ggL_law_X10_place
set_option maxRecDepth 20000 in
theorem ggL_law_X9_done : GoodIn wsL_law wsX9_done := goodIn_r _ [599, 27, 577, 600, 601, 177, 178, 2, 179, 929, 930, 931, 932, 933, 934, 935, 996, 997, 998, 999, 1000, 1001, 1002, 1003, 1004, 1005] (by decide +kernel) (by decide +kernel)
set_option maxRecDepth 20000 in
theorem gL_law_X9_done : GoodIn wsL_law (wsV RL 95 RX9 yX9_done wsX9_done) := goodIn_app (goodIn_of _ (by decide +kernel)) ggL_law_X9_done
set_option maxRecDepth 20000 in
theorem ggL_law_X10_done : GoodIn wsL_law wsX10_done := goodIn_r _ [605, 157, 606, 607, 608, 5, 609, 595, 190, 191, 192, 936, 937, 938, 939, 940, 941, 942, 943, 944, 945, 946, 947, 948, 949, 950, 951, 952, 953, 954, 955, 956, 957, 958, 959, 960, 961, 962, 963, 964, 965, 966, 967, 968, 969, 970, 971, 972, 973, 974, 975, 976, 977] (by decide +kernel) (by decide +kernel)
set_option maxRecDepth 20000 in
theorem gL_law_X10_done : GoodIn wsL_law (wsV RL 98 RX10 yX10_done wsX10_done) := goodIn_app (goodIn_of _ (by decide +kernel)) ggL_law_X10_done
set_option maxRecDepth 20000 in
theorem ggL_law_X9_moves : GoodIn wsL_law wsX9_moves := goodIn_r _ [613, 27, 577, 614, 177, 178, 2, 179, 929, 930, 931, 932, 933, 934, 935, 996, 997, 998, 999, 1000, 1001, 1002, 1003, 1004, 1005] (by decide +kernel) (by decide +kernel)
set_option maxRecDepth 20000 in
theorem gL_law_X9_moves : GoodIn wsL_law (wsV RL 99 RX9 yX9_moves wsX9_moves) := goodIn_app (goodIn_of _ (by decide +kernel)) ggL_law_X9_moves
set_option maxRecDepth 20000 in
theorem ggL_law_X10_moves : GoodIn wsL_law wsX10_moves := goodIn_r _ [618, 155, 156, 606, 607, 608, 5, 609, 595, 190, 191, 192, 619, 620, 621, 622, 936, 937, 938, 939, 940, 941, 942, 943, 944, 945, 946, 947, 948, 949, 950, 951, 952, 953, 954, 955, 956, 957, 958, 959, 960, 961, 962, 963, 964, 965, 966, 967, 968, 969, 970, 971, 972, 973, 974, 975, 976, 977] (by decide +kernel) (by decide +kernel)
set_option maxRecDepth 20000 in
theorem gL_law_X10_moves : GoodIn wsL_law (wsV RL 102 RX10 yX10_moves wsX10_moves) := goodIn_app (goodIn_of _ (by decide +kernel)) ggL_law_X10_moves
set_option maxRecDepth 20000 in
theorem ggL_law_X9_least : GoodIn wsL_law wsX9_least := goodIn_r _ [626, 27, 627, 628, 629, 630, 26, 631, 102, 108, 104, 632, 633, 634, 635, 97, 99, 636, 637, 638, 639, 640, 641, 642, 643, 644, 645, 646, 647, 648, 649, 650, 651, 652, 653, 654, 101, 655, 656, 657, 658, 103, 105, 659, 660, 661, 662, 663, 664, 665, 929, 930, 931, 932, 933, 934, 935, 996, 997, 998, 999, 1000, 1001, 1002, 1003, 1004, 1005] (by decide +kernel) (by decide +kernel)
set_option maxRecDepth 20000 in
theorem gL_law_X9_least : GoodIn wsL_law (wsV RL 103 RX9 yX9_least wsX9_least) := goodIn_app (goodIn_of _ (by decide +kernel)) ggL_law_X9_least
set_option maxRecDepth 20000 in
theorem ggL_law_X10_least : GoodIn wsL_law wsX10_least := goodIn_r _ [669, 670, 671, 672, 5, 673, 595, 157, 158, 674, 675, 676, 677, 678, 679, 680, 681, 155, 156, 619, 620, 621, 622, 682, 683, 684, 685, 936, 937, 938, 939, 940, 941, 942, 943, 944, 945, 946, 947, 948, 949, 950, 951, 952, 953, 954, 955, 956, 957, 958, 959, 960, 961, 962, 963, 964, 965, 966, 967, 968, 969, 970, 971, 972, 973, 974, 975, 976, 977] (by decide +kernel) (by decide +kernel)
set_option maxRecDepth 20000 in
theorem gL_law_X10_least : GoodIn wsL_law (wsV RL 106 RX10 yX10_least wsX10_least) := goodIn_app (goodIn_of _ (by decide +kernel)) ggL_law_X10_least
set_option maxRecDepth 20000 in
theorem ggL_law_X9_order : GoodIn wsL_law wsX9_order := goodIn_r _ [689, 27, 690, 691, 628, 629, 630, 26, 631, 102, 108, 104, 632, 633, 634, 635, 97, 99, 636, 637, 638, 639, 640, 641, 642, 643, 644, 645, 646, 647, 648, 649, 650, 651, 652, 653, 654, 101, 655, 656, 657, 658, 103, 105, 659, 660, 661, 662, 663, 664, 665, 929, 930, 931, 932, 933, 934, 935, 996, 997, 998, 999, 1000, 1001, 1002, 1003, 1004, 1005] (by decide +kernel) (by decide +kernel)
set_option maxRecDepth 20000 in
theorem gL_law_X9_order : GoodIn wsL_law (wsV RL 107 RX9 yX9_order wsX9_order) := goodIn_app (goodIn_of _ (by decide +kernel)) ggL_law_X9_order
set_option maxRecDepth 20000 in
theorem ggL_law_X10_order : GoodIn wsL_law wsX10_order := goodIn_r _ [695, 670, 671, 672, 5, 673, 595, 157, 158, 674, 675, 676, 677, 678, 679, 680, 681, 155, 156, 619, 620, 621, 622, 682, 683, 684, 685, 936, 937, 938, 939, 940, 941, 942, 943, 944, 945, 946, 947, 948, 949, 950, 951, 952, 953, 954, 955, 956, 957, 958, 959, 960, 961, 962, 963, 964, 965, 966, 967, 968, 969, 970, 971, 972, 973, 974, 975, 976, 977] (by decide +kernel) (by decide +kernel)
set_option maxRecDepth 20000 in
theorem gL_law_X10_order : GoodIn wsL_law (wsV RL 110 RX10 yX10_order wsX10_order) := goodIn_app (goodIn_of _ (by decide +kernel)) ggL_law_X10_order
set_option maxRecDepth 20000 in
theorem ggL_law_X9_rule : GoodIn wsL_law wsX9_rule := goodIn_r _ [699, 700, 246, 31, 701, 702, 703, 704, 705, 706, 707, 30, 708, 117, 118, 119, 929, 930, 931, 932, 933, 934, 935, 1006, 1007, 1008, 1009, 1010, 1011, 1012, 1013] (by decide +kernel) (by decide +kernel)
set_option maxRecDepth 20000 in
theorem gL_law_X9_rule : GoodIn wsL_law (wsV RL 111 RX9 yX9_rule wsX9_rule) := goodIn_app (goodIn_of _ (by decide +kernel)) ggL_law_X9_rule
set_option maxRecDepth 20000 in
theorem ggL_law_X10_rule : GoodIn wsL_law wsX10_rule := goodIn_r _ [712, 713, 714, 189, 310, 159, 160, 161, 163, 190, 191, 5, 192, 715, 716, 717, 718, 719, 720, 164, 936, 937, 938, 939, 940, 941, 942, 943, 944, 945, 946, 947, 948, 949, 950, 951, 952, 953, 954, 955, 956, 957, 958, 959, 960, 961, 962, 963, 964, 965, 966, 967, 968, 969, 970, 971, 972, 973, 974, 975, 976, 977] (by decide +kernel) (by decide +kernel)
set_option maxRecDepth 20000 in
theorem gL_law_X10_rule : GoodIn wsL_law (wsV RL 114 RX10 yX10_rule wsX10_rule) := goodIn_app (goodIn_of _ (by decide +kernel)) ggL_law_X10_rule
set_option maxRecDepth 20000 in
theorem ggL_law_X9_come : GoodIn wsL_law wsX9_come := goodIn_r _ [724, 31, 725, 243, 244, 2, 245, 246, 180, 181, 182, 726, 727, 728, 30, 729, 121, 118, 119, 117, 114, 265, 266, 730, 731, 732, 733, 734, 294, 280, 295, 116, 735, 736, 737, 738, 112, 113, 739, 740, 741, 742, 743, 744, 745, 588, 589, 746, 297, 298, 747, 748, 749, 750, 751, 512, 287, 513, 929, 930, 931, 932, 933, 934, 935, 1006, 1007, 1008, 1009, 1010, 1011, 1012, 1013] (by decide +kernel) (by decide +kernel)
set_option maxRecDepth 20000 in
theorem gL_law_X9_come : GoodIn wsL_law (wsV RL 115 RX9 yX9_come wsX9_come) := goodIn_app (goodIn_of _ (by decide +kernel)) ggL_law_X9_come
set_option maxRecDepth 20000 in
theorem ggL_law_X10_come : GoodIn wsL_law wsX10_come := goodIn_r _ [755, 719, 165, 720, 163, 164, 161, 306, 307, 5, 308, 309, 310, 190, 191, 192, 756, 757, 758, 759, 159, 160, 936, 937, 938, 939, 940, 941, 942, 943, 944, 945, 946, 947, 948, 949, 950, 951, 952, 953, 954, 955, 956, 957, 958, 959, 960, 961, 962, 963, 964, 965, 966, 967, 968, 969, 970, 971, 972, 973, 974, 975, 976, 977] (by decide +kernel) (by decide +kernel)
set_option maxRecDepth 20000 in
theorem gL_law_X10_come : GoodIn wsL_law (wsV RL 118 RX10 yX10_come wsX10_come) := goodIn_app (goodIn_of _ (by decide +kernel)) ggL_law_X10_come
set_option maxRecDepth 20000 in
theorem ggL_law_X9_settled : GoodIn wsL_law wsX9_settled := goodIn_r _ [763, 31, 725, 764, 765, 766, 767, 768, 30, 769, 112, 747, 748, 749, 750, 121, 118, 751, 512, 287, 513, 929, 930, 931, 932, 933, 934, 935, 1006, 1007, 1008, 1009, 1010, 1011, 1012, 1013] (by decide +kernel) (by decide +kernel)
set_option maxRecDepth 20000 in
theorem gL_law_X9_settled : GoodIn wsL_law (wsV RL 119 RX9 yX9_settled wsX9_settled) := goodIn_app (goodIn_of _ (by decide +kernel)) ggL_law_X9_settled
set_option maxRecDepth 20000 in
theorem ggL_law_X10_settled : GoodIn wsL_law wsX10_settled := goodIn_r _ [773, 774, 202, 720, 159, 719, 165, 164, 190, 191, 5, 192, 936, 937, 938, 939, 940, 941, 942, 943, 944, 945, 946, 947, 948, 949, 950, 951, 952, 953, 954, 955, 956, 957, 958, 959, 960, 961, 962, 963, 964, 965, 966, 967, 968, 969, 970, 971, 972, 973, 974, 975, 976, 977] (by decide +kernel) (by decide +kernel)
set_option maxRecDepth 20000 in
theorem gL_law_X10_settled : GoodIn wsL_law (wsV RL 122 RX10 yX10_settled wsX10_settled) := goodIn_app (goodIn_of _ (by decide +kernel)) ggL_law_X10_settled
set_option maxRecDepth 20000 in
theorem ggL_law_X9_anew : GoodIn wsL_law wsX9_anew := goodIn_r _ [778, 31, 764, 705, 706, 707, 30, 708, 117, 118, 119, 929, 930, 931, 932, 933, 934, 935, 1006, 1007, 1008, 1009, 1010, 1011, 1012, 1013] (by decide +kernel) (by decide +kernel)
set_option maxRecDepth 20000 in
theorem gL_law_X9_anew : GoodIn wsL_law (wsV RL 123 RX9 yX9_anew wsX9_anew) := goodIn_app (goodIn_of _ (by decide +kernel)) ggL_law_X9_anew
set_option maxRecDepth 20000 in
theorem ggL_law_X10_anew : GoodIn wsL_law wsX10_anew := goodIn_r _ [782, 720, 715, 716, 717, 5, 718, 719, 164, 936, 937, 938, 939, 940, 941, 942, 943, 944, 945, 946, 947, 948, 949, 950, 951, 952, 953, 954, 955, 956, 957, 958, 959, 960, 961, 962, 963, 964, 965, 966, 967, 968, 969, 970, 971, 972, 973, 974, 975, 976, 977] (by decide +kernel) (by decide +kernel)
set_option maxRecDepth 20000 in
theorem gL_law_X10_anew : GoodIn wsL_law (wsV RL 126 RX10 yX10_anew wsX10_anew) := goodIn_app (goodIn_of _ (by decide +kernel)) ggL_law_X10_anew
set_option maxRecDepth 20000 in
theorem ggL_law_X9_tube : GoodIn wsL_law wsX9_tube := goodIn_r _ [786, 35, 787, 788, 789, 790, 34, 791, 128, 125, 126, 127, 929, 930, 931, 932, 933, 934, 935, 1014, 1015, 1016, 1017] (by decide +kernel) (by decide +kernel)
set_option maxRecDepth 20000 in
theorem gL_law_X9_tube : GoodIn wsL_law (wsV RL 127 RX9 yX9_tube wsX9_tube) := goodIn_app (goodIn_of _ (by decide +kernel)) ggL_law_X9_tube
set_option maxRecDepth 20000 in
theorem ggL_law_X10_tube : GoodIn wsL_law wsX10_tube := goodIn_r _ [795, 189, 796, 166, 167, 168, 190, 191, 5, 192, 936, 937, 938, 939, 940, 941, 942, 943, 944, 945, 946, 947, 948, 949, 950, 951, 952, 953, 954, 955, 956, 957, 958, 959, 960, 961, 962, 963, 964, 965, 966, 967, 968, 969, 970, 971, 972, 973, 974, 975, 976, 977] (by decide +kernel) (by decide +kernel)
set_option maxRecDepth 20000 in
theorem gL_law_X10_tube : GoodIn wsL_law (wsV RL 130 RX10 yX10_tube wsX10_tube) := goodIn_app (goodIn_of _ (by decide +kernel)) ggL_law_X10_tube
set_option maxRecDepth 20000 in
theorem ggL_law_X9_press : GoodIn wsL_law wsX9_press := goodIn_r _ [800, 35, 787, 801, 802, 177, 178, 2, 179, 803, 804, 34, 805, 181, 182, 929, 930, 931, 932, 933, 934, 935, 1014, 1015, 1016, 1017] (by decide +kernel) (by decide +kernel)
set_option maxRecDepth 20000 in
theorem gL_law_X9_press : GoodIn wsL_law (wsV RL 131 RX9 yX9_press wsX9_press) := goodIn_app (goodIn_of _ (by decide +kernel)) ggL_law_X9_press
set_option maxRecDepth 20000 in
theorem ggL_law_X10_press : GoodIn wsL_law wsX10_press := goodIn_r _ [809, 796, 810, 474, 168, 167, 190, 191, 5, 192, 936, 937, 938, 939, 940, 941, 942, 943, 944, 945, 946, 947, 948, 949, 950, 951, 952, 953, 954, 955, 956, 957, 958, 959, 960, 961, 962, 963, 964, 965, 966, 967, 968, 969, 970, 971, 972, 973, 974, 975, 976, 977] (by decide +kernel) (by decide +kernel)
set_option maxRecDepth 20000 in
theorem gL_law_X10_press : GoodIn wsL_law (wsV RL 135 RX10 yX10_press wsX10_press) := goodIn_app (goodIn_of _ (by decide +kernel)) ggL_law_X10_press
set_option maxRecDepth 20000 in
theorem ggL_law_X9_sheet : GoodIn wsL_law wsX9_sheet := goodIn_r _ [814, 37, 177, 178, 2, 179, 815, 816, 817, 818, 819, 820, 39, 821, 132, 133, 134, 929, 930, 931, 932, 933, 934, 935, 1018, 1019, 1020] (by decide +kernel) (by decide +kernel)
set_option maxRecDepth 20000 in
theorem gL_law_X9_sheet : GoodIn wsL_law (wsV RL 136 RX9 yX9_sheet wsX9_sheet) := goodIn_app (goodIn_of _ (by decide +kernel)) ggL_law_X9_sheet
set_option maxRecDepth 20000 in
theorem ggL_law_X10_sheet : GoodIn wsL_law wsX10_sheet := goodIn_r _ [825, 774, 187, 169, 170, 171, 190, 191, 5, 192, 936, 937, 938, 939, 940, 941, 942, 943, 944, 945, 946, 947, 948, 949, 950, 951, 952, 953, 954, 955, 956, 957, 958, 959, 960, 961, 962, 963, 964, 965, 966, 967, 968, 969, 970, 971, 972, 973, 974, 975, 976, 977] (by decide +kernel) (by decide +kernel)
set_option maxRecDepth 20000 in
theorem gL_law_X10_sheet : GoodIn wsL_law (wsV RL 139 RX10 yX10_sheet wsX10_sheet) := goodIn_app (goodIn_of _ (by decide +kernel)) ggL_law_X10_sheet
set_option maxRecDepth 20000 in
theorem ggL_law_X9_lay : GoodIn wsL_law wsX9_lay := goodIn_r _ [829, 37, 177, 178, 2, 179, 830, 831, 832, 39, 833, 132, 133, 815, 816, 817, 834, 835, 836, 837, 134, 929, 930, 931, 932, 933, 934, 935, 1018, 1019, 1020] (by decide +kernel) (by decide +kernel)
set_option maxRecDepth 20000 in
theorem gL_law_X9_lay : GoodIn wsL_law (wsV RL 140 RX9 yX9_lay wsX9_lay) := goodIn_app (goodIn_of _ (by decide +kernel)) ggL_law_X9_lay
set_option maxRecDepth 20000 in
theorem ggL_law_X10_lay : GoodIn wsL_law wsX10_lay := goodIn_r _ [841, 774, 169, 170, 171, 190, 191, 5, 192, 936, 937, 938, 939, 940, 941, 942, 943, 944, 945, 946, 947, 948, 949, 950, 951, 952, 953, 954, 955, 956, 957, 958, 959, 960, 961, 962, 963, 964, 965, 966, 967, 968, 969, 970, 971, 972, 973, 974, 975, 976, 977] (by decide +kernel) (by decide +kernel)
set_option maxRecDepth 20000 in
theorem gL_law_X10_lay : GoodIn wsL_law (wsV RL 143 RX10 yX10_lay wsX10_lay) := goodIn_app (goodIn_of _ (by decide +kernel)) ggL_law_X10_lay
set_option maxRecDepth 20000 in
theorem ggL_law_X9_scan : GoodIn wsL_law wsX9_scan := goodIn_r _ [845, 37, 35, 787, 177, 178, 2, 179, 846, 847, 848, 39, 849, 132, 830, 831, 832, 833, 133, 815, 816, 817, 850, 851, 852, 34, 853, 125, 126, 127, 854, 855, 856, 857, 134, 858, 804, 805, 181, 182, 859, 860, 861, 862, 929, 930, 931, 932, 933, 934, 935, 1014, 1015, 1016, 1017, 1018, 1019, 1020] (by decide +kernel) (by decide +kernel)
set_option maxRecDepth 20000 in
theorem gL_law_X9_scan : GoodIn wsL_law (wsV RL 144 RX9 yX9_scan wsX9_scan) := goodIn_app (goodIn_of _ (by decide +kernel)) ggL_law_X9_scan
set_option maxRecDepth 20000 in
theorem ggL_law_X10_scan : GoodIn wsL_law wsX10_scan := goodIn_r _ [866, 774, 187, 169, 796, 170, 171, 168, 810, 474, 167, 190, 191, 5, 192, 867, 868, 869, 870, 936, 937, 938, 939, 940, 941, 942, 943, 944, 945, 946, 947, 948, 949, 950, 951, 952, 953, 954, 955, 956, 957, 958, 959, 960, 961, 962, 963, 964, 965, 966, 967, 968, 969, 970, 971, 972, 973, 974, 975, 976, 977] (by decide +kernel) (by decide +kernel)
set_option maxRecDepth 20000 in
theorem gL_law_X10_scan : GoodIn wsL_law (wsV RL 147 RX10 yX10_scan wsX10_scan) := goodIn_app (goodIn_of _ (by decide +kernel)) ggL_law_X10_scan
set_option maxRecDepth 20000 in
theorem ggL_law_X9_force : GoodIn wsL_law wsX9_force := goodIn_r _ [874, 35, 875, 876, 877, 34, 878, 125, 128, 127, 929, 930, 931, 932, 933, 934, 935, 1014, 1015, 1016, 1017] (by decide +kernel) (by decide +kernel)
set_option maxRecDepth 20000 in
theorem gL_law_X9_force : GoodIn wsL_law (wsV RL 148 RX9 yX9_force wsX9_force) := goodIn_app (goodIn_of _ (by decide +kernel)) ggL_law_X9_force
set_option maxRecDepth 20000 in
theorem ggL_law_X10_force : GoodIn wsL_law wsX10_force := goodIn_r _ [882, 796, 168, 166, 167, 936, 937, 938, 939, 940, 941, 942, 943, 944, 945, 946, 947, 948, 949, 950, 951, 952, 953, 954, 955, 956, 957, 958, 959, 960, 961, 962, 963, 964, 965, 966, 967, 968, 969, 970, 971, 972, 973, 974, 975, 976, 977] (by decide +kernel) (by decide +kernel)
set_option maxRecDepth 20000 in
theorem gL_law_X10_force : GoodIn wsL_law (wsV RL 151 RX10 yX10_force wsX10_force) := goodIn_app (goodIn_of _ (by decide +kernel)) ggL_law_X10_force
set_option maxRecDepth 20000 in
theorem ggL_law_X9_check : GoodIn wsL_law wsX9_check := goodIn_r _ [886, 700, 246, 35, 180, 181, 2, 182, 859, 860, 861, 34, 862, 125, 126, 887, 888, 889, 890, 891, 294, 280, 295, 892, 876, 877, 878, 128, 127, 893, 894, 895, 896, 897, 297, 298, 898, 588, 589, 899, 504, 287, 505, 929, 930, 931, 932, 933, 934, 935, 1014, 1015, 1016, 1017] (by decide +kernel) (by decide +kernel)
set_option maxRecDepth 20000 in
theorem gL_law_X9_check : GoodIn wsL_law (wsV RL 152 RX9 yX9_check wsX9_check) := goodIn_app (goodIn_of _ (by decide +kernel)) ggL_law_X9_check
set_option maxRecDepth 20000 in
theorem ggL_law_X10_check : GoodIn wsL_law wsX10_check := goodIn_r _ [903, 714, 796, 166, 167, 474, 810, 306, 307, 5, 308, 309, 310, 190, 191, 192, 867, 868, 869, 870, 168, 904, 880, 881, 882, 322, 323, 324, 936, 937, 938, 939, 940, 941, 942, 943, 944, 945, 946, 947, 948, 949, 950, 951, 952, 953, 954, 955, 956, 957, 958, 959, 960, 961, 962, 963, 964, 965, 966, 967, 968, 969, 970, 971, 972, 973, 974, 975, 976, 977] (by decide +kernel) (by decide +kernel)
set_option maxRecDepth 20000 in
theorem gL_law_X10_check : GoodIn wsL_law (wsV RL 155 RX10 yX10_check wsX10_check) := goodIn_app (goodIn_of _ (by decide +kernel)) ggL_law_X10_check
set_option maxRecDepth 20000 in
theorem ggL_law_X9_fill : GoodIn wsL_law wsX9_fill := goodIn_r _ [908, 246, 35, 180, 181, 2, 182, 859, 860, 861, 34, 862, 125, 126, 909, 910, 911, 912, 128, 892, 876, 877, 878, 127, 899, 504, 287, 505, 858, 804, 805, 929, 930, 931, 932, 933, 934, 935, 1014, 1015, 1016, 1017] (by decide +kernel) (by decide +kernel)
set_option maxRecDepth 20000 in
theorem gL_law_X9_fill : GoodIn wsL_law (wsV RL 156 RX9 yX9_fill wsX9_fill) := goodIn_app (goodIn_of _ (by decide +kernel)) ggL_law_X9_fill
set_option maxRecDepth 20000 in
theorem ggL_law_X10_fill : GoodIn wsL_law wsX10_fill := goodIn_r _ [916, 168, 166, 187, 810, 474, 306, 307, 5, 308, 309, 310, 190, 191, 192, 867, 868, 869, 870, 796, 904, 880, 881, 882, 167, 322, 323, 324, 936, 937, 938, 939, 940, 941, 942, 943, 944, 945, 946, 947, 948, 949, 950, 951, 952, 953, 954, 955, 956, 957, 958, 959, 960, 961, 962, 963, 964, 965, 966, 967, 968, 969, 970, 971, 972, 973, 974, 975, 976, 977] (by decide +kernel) (by decide +kernel)
set_option maxRecDepth 20000 in
theorem gL_law_X10_fill : GoodIn wsL_law (wsV RL 159 RX10 yX10_fill wsX10_fill) := goodIn_app (goodIn_of _ (by decide +kernel)) ggL_law_X10_fill
set_option maxRecDepth 20000 in
theorem ggL_law_X9_count : GoodIn wsL_law wsX9_count := goodIn_r _ [920, 19, 340, 23, 411, 27, 577, 35, 787, 921, 922, 923, 26, 924, 97, 99, 859, 860, 861, 34, 862, 125, 126, 929, 930, 931, 932, 933, 934, 935, 985, 986, 987, 988, 989, 990, 991, 992, 993, 994, 995, 996, 997, 998, 999, 1000, 1001, 1002, 1003, 1004, 1005, 1014, 1015, 1016, 1017] (by decide +kernel) (by decide +kernel)
set_option maxRecDepth 20000 in
theorem gL_law_X9_count : GoodIn wsL_law (wsV RL 160 RX9 yX9_count wsX9_count) := goodIn_app (goodIn_of _ (by decide +kernel)) ggL_law_X9_count
set_option maxRecDepth 20000 in
theorem ggL_law_X10_count : GoodIn wsL_law wsX10_count := goodIn_r _ [928, 595, 157, 348, 432, 796, 867, 868, 869, 5, 870, 168, 936, 937, 938, 939, 940, 941, 942, 943, 944, 945, 946, 947, 948, 949, 950, 951, 952, 953, 954, 955, 956, 957, 958, 959, 960, 961, 962, 963, 964, 965, 966, 967, 968, 969, 970, 971, 972, 973, 974, 975, 976, 977] (by decide +kernel) (by decide +kernel)
set_option maxRecDepth 20000 in
theorem gL_law_X10_count : GoodIn wsL_law (wsV RL 163 RX10 yX10_count wsX10_count) := goodIn_app (goodIn_of _ (by decide +kernel)) ggL_law_X10_count
