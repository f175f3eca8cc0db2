set_option maxRecDepth 20000 in
theorem ggL_change_X6_count : GoodIn wsL_change wsX6_count := goodIn_r _ [5, 6, 7, 8, 9, 10, 11, 12, 13, 14, 15, 16, 17, 18, 19, 20, 21, 22, 23, 24, 25, 26, 27, 28, 29, 30, 31, 32, 33, 34, 35, 36, 37, 38, 39, 40, 41, 42, 43, 44, 45, 46, 47, 48, 49, 50, 51, 52, 53, 54, 55, 56, 57, 58, 59, 60, 61, 62, 63, 64, 65, 66, 67, 68, 69, 70, 71, 72, 73, 74, 75, 76, 77, 78, 79, 262, 263, 264, 265, 266, 267, 268, 269, 270, 271, 272, 273, 274, 275, 276, 277] (by decide +kernel) (by decide +kernel)
set_option maxRecDepth 20000 in
theorem gL_change_X6_count : GoodIn wsL_change (wsV RL 9 RX6 yX6_count wsX6_count) := goodIn_app (goodIn_of _ (by decide +kernel)) ggL_change_X6_count
set_option maxRecDepth 20000 in
theorem ggL_change_L_low : GoodIn wsL_change wsL_low := goodIn_r _ [83, 84] (by decide +kernel) (by decide +kernel)
set_option maxRecDepth 20000 in
theorem gL_change_L_low : GoodIn wsL_change (va_wsS RL 15 yL_low wsL_low) := goodIn_app (goodIn_of _ (by decide +kernel)) ggL_change_L_low
set_option maxRecDepth 20000 in
theorem ggL_change_X6_stroke : GoodIn wsL_change wsX6_stroke := goodIn_r _ [88, 6, 89, 90, 91, 12, 92, 14, 93, 94, 4, 95, 96, 97, 98, 99, 100, 18, 101, 102, 103, 104, 105, 8, 106, 107, 108, 109, 110, 111, 112, 113, 114, 115, 116, 117, 118, 119, 120, 121, 122, 123, 124, 125, 15, 126, 127, 128, 129, 130, 131, 132, 133, 134, 135, 136, 137, 138, 139, 140, 141, 262, 263, 264, 265, 266, 267, 268, 269, 270, 271, 272, 273, 276, 277] (by decide +kernel) (by decide +kernel)
set_option maxRecDepth 20000 in
theorem gL_change_X6_stroke : GoodIn wsL_change (wsV RL 21 RX6 yX6_stroke wsX6_stroke) := goodIn_app (goodIn_of _ (by decide +kernel)) ggL_change_X6_stroke
set_option maxRecDepth 20000 in
theorem ggL_change_X6_rest : GoodIn wsL_change wsX6_rest := goodIn_r _ [145, 6, 89, 90, 91, 12, 92, 14, 102, 103, 104, 4, 105, 8, 106, 107, 108, 109, 110, 111, 112, 113, 114, 115, 116, 117, 118, 119, 120, 121, 122, 123, 124, 125, 15, 126, 127, 128, 129, 130, 131, 132, 133, 134, 135, 136, 137, 138, 139, 140, 141, 262, 263, 264, 265, 266, 267, 268, 269, 270, 271, 272, 273, 276, 277] (by decide +kernel) (by decide +kernel)
set_option maxRecDepth 20000 in
theorem gL_change_X6_rest : GoodIn wsL_change (wsV RL 25 RX6 yX6_rest wsX6_rest) := goodIn_app (goodIn_of _ (by decide +kernel)) ggL_change_X6_rest
set_option maxRecDepth 20000 in
theorem ggL_change_X6_put : GoodIn wsL_change wsX6_put := goodIn_r _ [149, 6, 8, 89, 90, 91, 12, 92, 14, 150, 139, 140, 141, 151, 131, 132, 133, 15, 106, 107, 108, 109, 110, 111, 112, 113, 114, 115, 116, 117, 118, 119, 120, 121, 122, 123, 124, 125, 152, 153, 154, 155, 138, 156, 157, 158, 159, 160, 161, 127, 128, 129, 130, 262, 263, 264, 265, 266, 267, 268, 269, 270, 271, 272, 273, 276, 277] (by decide +kernel) (by decide +kernel)
set_option maxRecDepth 20000 in
theorem gL_change_X6_put : GoodIn wsL_change (wsV RL 28 RX6 yX6_put wsX6_put) := goodIn_app (goodIn_of _ (by decide +kernel)) ggL_change_X6_put
set_option maxRecDepth 20000 in
theorem ggL_change_X6_cut : GoodIn wsL_change wsX6_cut := goodIn_r _ [165, 6, 8, 150, 139, 140, 12, 141, 14, 106, 107, 108, 109, 110, 111, 112, 113, 114, 115, 116, 117, 118, 119, 120, 121, 122, 123, 124, 125, 15, 166, 167, 168, 169, 138, 262, 263, 264, 265, 266, 267, 268, 269, 270, 271, 272, 273, 276, 277] (by decide +kernel) (by decide +kernel)
set_option maxRecDepth 20000 in
theorem gL_change_X6_cut : GoodIn wsL_change (wsV RL 31 RX6 yX6_cut wsX6_cut) := goodIn_app (goodIn_of _ (by decide +kernel)) ggL_change_X6_cut
set_option maxRecDepth 20000 in
theorem ggL_change_X6_mirror : GoodIn wsL_change wsX6_mirror := goodIn_r _ [173, 8, 6, 106, 107, 108, 109, 110, 111, 112, 113, 114, 115, 116, 117, 118, 119, 12, 120, 121, 122, 123, 124, 125, 14, 15, 152, 153, 154, 155, 138, 139, 140, 141, 174, 17, 18, 19, 175, 25, 26, 176, 177, 4, 178, 179, 180, 181, 64, 32, 33, 49, 39, 40, 182, 100, 101, 134, 135, 136, 137, 262, 263, 264, 265, 266, 267, 268, 269, 270, 271, 272, 273, 276, 277] (by decide +kernel) (by decide +kernel)
set_option maxRecDepth 20000 in
theorem gL_change_X6_mirror : GoodIn wsL_change (wsV RL 34 RX6 yX6_mirror wsX6_mirror) := goodIn_app (goodIn_of _ (by decide +kernel)) ggL_change_X6_mirror
set_option maxRecDepth 20000 in
theorem ggL_change_X6_turn : GoodIn wsL_change wsX6_turn := goodIn_r _ [186, 6, 8, 187, 89, 90, 91, 12, 92, 14, 106, 107, 108, 109, 110, 111, 112, 113, 114, 115, 116, 117, 118, 119, 120, 121, 122, 123, 124, 125, 15, 188, 152, 153, 154, 155, 138, 139, 140, 141, 134, 135, 136, 137, 262, 263, 264, 265, 266, 267, 268, 269, 270, 271, 272, 273, 276, 277] (by decide +kernel) (by decide +kernel)
set_option maxRecDepth 20000 in
theorem gL_change_X6_turn : GoodIn wsL_change (wsV RL 38 RX6 yX6_turn wsX6_turn) := goodIn_app (goodIn_of _ (by decide +kernel)) ggL_change_X6_turn
set_option maxRecDepth 20000 in
theorem ggL_change_X6_lean : GoodIn wsL_change wsX6_lean := goodIn_r _ [192, 8, 6, 106, 107, 108, 109, 110, 111, 112, 113, 114, 115, 116, 117, 118, 119, 12, 120, 121, 122, 123, 124, 125, 14, 15, 152, 153, 154, 155, 138, 139, 140, 141, 193, 39, 18, 40, 194, 195, 196, 197, 25, 26, 64, 32, 33, 182, 100, 101, 134, 135, 136, 137, 262, 263, 264, 265, 266, 267, 268, 269, 270, 271, 272, 273, 276, 277] (by decide +kernel) (by decide +kernel)
set_option maxRecDepth 20000 in
theorem gL_change_X6_lean : GoodIn wsL_change (wsV RL 41 RX6 yX6_lean wsX6_lean) := goodIn_app (goodIn_of _ (by decide +kernel)) ggL_change_X6_lean
set_option maxRecDepth 20000 in
theorem ggL_change_X6_set : GoodIn wsL_change wsX6_set := goodIn_r _ [201, 8, 6, 106, 107, 108, 109, 110, 111, 112, 113, 114, 115, 116, 117, 118, 119, 12, 120, 121, 122, 123, 124, 125, 14, 15, 262, 263, 264, 265, 266, 267, 268, 269, 270, 271, 272, 273, 276, 277] (by decide +kernel) (by decide +kernel)
set_option maxRecDepth 20000 in
theorem gL_change_X6_set : GoodIn wsL_change (wsV RL 45 RX6 yX6_set wsX6_set) := goodIn_app (goodIn_of _ (by decide +kernel)) ggL_change_X6_set
set_option maxRecDepth 20000 in
theorem ggL_change_X6_decide : GoodIn wsL_change wsX6_decide := goodIn_r _ [205, 206, 6, 8, 207, 208, 209, 210, 211, 212, 213, 214, 215, 216, 217, 218, 219, 220, 71, 221, 222, 223, 224, 153, 154, 12, 155, 15, 138, 139, 140, 141, 14, 225, 17, 18, 19, 226, 25, 26, 227, 228, 229, 230, 231, 232, 39, 40, 233, 234, 235, 236, 237, 238, 239, 240, 241, 242, 243, 244, 245, 246, 247, 248, 249, 250, 251, 252, 253, 254, 255, 256, 257, 106, 107, 108, 109, 110, 111, 112, 113, 114, 115, 116, 117, 118, 119, 120, 121, 122, 123, 124, 125, 152, 174, 175, 258, 259, 260, 261, 179, 180, 181, 64, 32, 33, 49, 182, 100, 101, 134, 135, 136, 137, 262, 263, 264, 265, 266, 267, 268, 269, 270, 271, 272, 273, 278, 279, 280, 281, 282, 283, 284, 276, 277] (by decide +kernel) (by decide +kernel)
set_option maxRecDepth 20000 in
theorem gL_change_X6_decide : GoodIn wsL_change (wsV RL 48 RX6 yX6_decide wsX6_decide) := goodIn_app (goodIn_of _ (by decide +kernel)) ggL_change_X6_decide
set_option maxRecDepth 20000 in
theorem ggL_blows_X6_step : GoodIn wsL_blows wsX6_step := goodIn_r _ [5, 6, 7, 8, 9, 10, 11, 12, 13, 14, 15, 16, 17, 18, 19, 20, 21, 22, 23, 24, 25, 26, 27, 28, 29, 30, 31, 32, 33, 34, 35, 36, 37, 38, 39, 40, 41, 42, 43, 44, 45, 46, 47, 48, 49, 50, 4, 51, 52, 53, 54, 55, 56, 57, 58, 59, 60, 61, 62, 63, 64, 65, 66, 67, 68, 69, 70, 71, 72, 73, 74, 75, 76, 77, 78, 79, 80, 81, 82, 83, 84, 85, 86, 87, 88, 89, 90, 91, 92, 93, 94, 95, 96, 97, 98, 99, 100, 101, 102, 103, 104, 105, 106, 107, 108, 109, 110, 111, 112, 113, 114, 115, 116, 117, 118, 119, 120, 121, 122, 123, 124, 125, 126, 127] (by decide +kernel) (by decide +kernel)
set_option maxRecDepth 20000 in
theorem gL_blows_X6_step : GoodIn wsL_blows (wsV RL 51 RX6 yX6_step wsX6_step) := goodIn_app (goodIn_of _ (by decide +kernel)) ggL_blows_X6_step
