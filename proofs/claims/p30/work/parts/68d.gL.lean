set_option maxRecDepth 20000 in
theorem ggL_holds_X6_count : GoodIn wsL_holds wsX6_count := goodIn_r _ [5, 6, 7, 8, 9, 10, 11, 12, 13, 14, 15, 16, 17, 18, 19, 20, 21, 22, 23, 24, 25, 26, 27, 28, 29, 30, 31, 32, 33, 34, 35, 36, 37, 38, 39, 40, 41, 42, 43, 44, 45, 46, 47, 48, 49, 50, 51, 52, 53, 54, 55, 56, 57, 58, 59, 60, 61, 62, 63, 64, 65, 66, 67, 68, 69, 70, 71, 72, 73, 74, 75, 76, 77, 78, 79, 271, 272, 273, 274, 275, 276, 277, 278, 279, 280, 281, 282, 283, 284, 285, 286] (by decide +kernel) (by decide +kernel)
set_option maxRecDepth 20000 in
theorem gL_holds_X6_count : GoodIn wsL_holds (wsV RL 9 RX6 yX6_count wsX6_count) := goodIn_app (goodIn_of _ (by decide +kernel)) ggL_holds_X6_count
set_option maxRecDepth 20000 in
theorem ggL_holds_X6_step : GoodIn wsL_holds wsX6_step := goodIn_r _ [83, 6, 84, 85, 86, 12, 87, 14, 88, 89, 90, 91, 15, 92, 93, 17, 18, 19, 94, 25, 26, 95, 32, 33, 96, 39, 40, 97, 46, 47, 48, 49, 50, 51, 52, 98, 58, 59, 60, 61, 62, 63, 64, 99, 100, 101, 4, 102, 103, 104, 105, 106, 107, 108, 109, 110, 111, 112, 113, 114, 115, 116, 117, 71, 118, 119, 120, 121, 122, 123, 124, 125, 126, 127, 128, 129, 130, 131, 132, 133, 134, 135, 136, 137, 138, 139, 140, 141, 142, 143, 144, 145, 146, 147, 148, 149, 150, 151, 152, 153, 154, 155, 156, 157, 158, 271, 272, 273, 274, 275, 276, 277, 278, 279, 280, 281, 282, 287, 288, 289, 290, 291, 292, 293] (by decide +kernel) (by decide +kernel)
set_option maxRecDepth 20000 in
theorem gL_holds_X6_step : GoodIn wsL_holds (wsV RL 51 RX6 yX6_step wsX6_step) := goodIn_app (goodIn_of _ (by decide +kernel)) ggL_holds_X6_step
set_option maxRecDepth 20000 in
theorem ggL_holds_X6_heard : GoodIn wsL_holds wsX6_heard := goodIn_r _ [162, 6, 88, 89, 90, 12, 91, 15, 92, 85, 86, 87, 14, 163, 164, 18, 165, 60, 46, 47, 48, 17, 19, 49, 39, 40, 50, 51, 52, 166, 167, 168, 61, 62, 63, 64, 32, 33, 271, 272, 273, 274, 275, 276, 277, 278, 279, 280, 281, 282] (by decide +kernel) (by decide +kernel)
set_option maxRecDepth 20000 in
theorem gL_holds_X6_heard : GoodIn wsL_holds (wsV RL 83 RX6 yX6_heard wsX6_heard) := goodIn_app (goodIn_of _ (by decide +kernel)) ggL_holds_X6_heard
set_option maxRecDepth 20000 in
theorem ggL_holds_X6_sign : GoodIn wsL_holds wsX6_sign := goodIn_r _ [172, 6, 173, 174, 175, 12, 176, 14, 15, 77, 78, 18, 79, 64, 32, 33, 49, 39, 40, 177, 178, 179, 48, 17, 19, 180, 25, 26, 181, 182, 183, 271, 272, 273, 274, 275, 276, 277, 278, 279, 280, 281, 282] (by decide +kernel) (by decide +kernel)
set_option maxRecDepth 20000 in
theorem gL_holds_X6_sign : GoodIn wsL_holds (wsV RL 86 RX6 yX6_sign wsX6_sign) := goodIn_app (goodIn_of _ (by decide +kernel)) ggL_holds_X6_sign
set_option maxRecDepth 20000 in
theorem ggL_holds_X6_clash : GoodIn wsL_holds wsX6_clash := goodIn_r _ [266, 6, 103, 20, 21, 22, 12, 23, 14, 15, 16, 17, 18, 19, 24, 25, 26, 267, 268, 269, 107, 270, 112, 113, 114, 115, 116, 117, 71, 118, 109, 110, 119, 120, 121, 89, 90, 91, 92, 85, 86, 87, 122, 123, 124, 125, 126, 127, 128, 129, 39, 40, 210, 211, 212, 213, 111, 214, 215, 216, 217, 218, 156, 157, 158, 151, 152, 153, 154, 271, 272, 273, 274, 275, 276, 277, 278, 279, 280, 281, 282, 287, 288, 289, 290, 291, 292, 293] (by decide +kernel) (by decide +kernel)
set_option maxRecDepth 20000 in
theorem gL_holds_X6_clash : GoodIn wsL_holds (wsV RL 93 RX6 yX6_clash wsX6_clash) := goodIn_app (goodIn_of _ (by decide +kernel)) ggL_holds_X6_clash
set_option maxRecDepth 20000 in
theorem ggL_holds_X6_stickings : GoodIn wsL_holds wsX6_stickings := goodIn_r _ [204, 6, 103, 20, 21, 22, 12, 23, 14, 15, 16, 17, 18, 19, 24, 25, 26, 205, 206, 207, 107, 208, 116, 117, 71, 118, 112, 113, 114, 115, 109, 110, 119, 120, 121, 89, 90, 91, 92, 85, 86, 87, 122, 123, 124, 125, 126, 127, 128, 129, 39, 40, 209, 210, 211, 212, 213, 111, 214, 215, 216, 217, 218, 156, 157, 158, 151, 152, 153, 154, 219, 220, 221, 222, 223, 224, 225, 226, 227, 10, 11, 13, 228, 229, 230, 231, 232, 233, 234, 235, 147, 148, 149, 150, 271, 272, 273, 274, 275, 276, 277, 278, 279, 280, 281, 282, 287, 288, 289, 290, 291, 292, 293] (by decide +kernel) (by decide +kernel)
set_option maxRecDepth 20000 in
theorem gL_holds_X6_stickings : GoodIn wsL_holds (wsV RL 70 RX6 yX6_stickings wsX6_stickings) := goodIn_app (goodIn_of _ (by decide +kernel)) ggL_holds_X6_stickings
