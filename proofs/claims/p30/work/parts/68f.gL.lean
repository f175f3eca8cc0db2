set_option maxRecDepth 20000 in
theorem ggL_tries_X6_count : GoodIn wsL_tries wsX6_count := goodIn_r _ [5, 6, 7, 8, 9, 10, 11, 12, 13, 14, 15, 16, 17, 18, 19, 20, 21, 22, 23, 24, 25, 26, 27, 28, 29, 30, 31, 32, 33, 34, 35, 36, 37, 38, 39, 40, 41, 42, 43, 44, 45, 46, 47, 48, 49, 50, 51, 52, 53, 54, 55, 56, 57, 58, 59, 60, 61, 62, 63, 64, 65, 66, 67, 68, 69, 70, 71, 72, 73, 74, 75, 76, 77, 78, 79, 288, 289, 290, 291, 292, 293, 294, 295, 296, 297, 298, 299, 300, 301, 302, 303] (by decide +kernel) (by decide +kernel)
set_option maxRecDepth 20000 in
theorem gL_tries_X6_count : GoodIn wsL_tries (wsV RL 9 RX6 yX6_count wsX6_count) := goodIn_app (goodIn_of _ (by decide +kernel)) ggL_tries_X6_count
set_option maxRecDepth 20000 in
theorem ggL_tries_X6_ifStroke : GoodIn wsL_tries wsX6_ifStroke := goodIn_r _ [83, 6, 84, 85, 86, 87, 88, 12, 89, 14, 90, 91, 4, 92, 93, 94, 95, 96, 97, 98, 99, 100, 101, 102, 103, 104, 15, 105, 106, 107, 108, 109, 110, 32, 18, 33, 111, 112, 113, 114, 115, 116, 117, 118, 119, 120, 121, 122, 123, 124, 125, 126, 127, 128, 129, 130, 131, 71, 132, 133, 134, 135, 136, 17, 19, 137, 25, 26, 138, 139, 140, 141, 142, 143, 39, 40, 144, 145, 146, 147, 148, 149, 150, 151, 152, 153, 154, 155, 156, 157, 158, 159, 160, 161, 162, 163, 164, 165, 166, 167, 168, 169, 170, 171, 172, 173, 174, 175, 176, 177, 178, 179, 180, 181, 10, 11, 13, 16, 182, 183, 184, 185, 186, 187, 188, 189, 288, 289, 290, 291, 292, 293, 294, 295, 296, 297, 298, 299, 304, 305, 306, 307, 308, 309, 310] (by decide +kernel) (by decide +kernel)
set_option maxRecDepth 20000 in
theorem gL_tries_X6_ifStroke : GoodIn wsL_tries (wsV RL 95 RX6 yX6_ifStroke wsX6_ifStroke) := goodIn_app (goodIn_of _ (by decide +kernel)) ggL_tries_X6_ifStroke
set_option maxRecDepth 20000 in
theorem ggL_tries_L_low : GoodIn wsL_tries wsL_low := goodIn_r _ [193, 194] (by decide +kernel) (by decide +kernel)
set_option maxRecDepth 20000 in
theorem gL_tries_L_low : GoodIn wsL_tries (va_wsS RL 15 yL_low wsL_low) := goodIn_app (goodIn_of _ (by decide +kernel)) ggL_tries_L_low
set_option maxRecDepth 20000 in
theorem ggL_tries_X6_stickings : GoodIn wsL_tries wsX6_stickings := goodIn_r _ [198, 6, 85, 20, 21, 22, 12, 23, 14, 15, 16, 17, 18, 19, 24, 25, 26, 199, 200, 201, 121, 202, 130, 131, 71, 132, 126, 127, 128, 129, 123, 124, 133, 134, 135, 106, 107, 108, 109, 87, 88, 89, 136, 137, 138, 139, 140, 141, 142, 143, 39, 40, 203, 204, 205, 206, 207, 125, 208, 209, 210, 211, 212, 213, 214, 215, 165, 166, 167, 168, 173, 174, 175, 176, 177, 178, 179, 180, 181, 10, 11, 13, 182, 183, 184, 185, 186, 187, 188, 189, 161, 162, 163, 164, 288, 289, 290, 291, 292, 293, 294, 295, 296, 297, 298, 299, 304, 305, 306, 307, 308, 309, 310] (by decide +kernel) (by decide +kernel)
set_option maxRecDepth 20000 in
theorem gL_tries_X6_stickings : GoodIn wsL_tries (wsV RL 70 RX6 yX6_stickings wsX6_stickings) := goodIn_app (goodIn_of _ (by decide +kernel)) ggL_tries_X6_stickings
set_option maxRecDepth 20000 in
theorem ggL_tries_X6_step : GoodIn wsL_tries wsX6_step := goodIn_r _ [219, 6, 86, 87, 88, 12, 89, 14, 105, 106, 107, 108, 15, 109, 220, 17, 18, 19, 221, 25, 26, 110, 32, 33, 222, 39, 40, 223, 46, 47, 48, 49, 50, 51, 52, 224, 58, 59, 60, 61, 62, 63, 64, 225, 226, 227, 4, 228, 85, 118, 119, 120, 121, 122, 123, 124, 125, 126, 127, 128, 129, 130, 131, 71, 132, 133, 134, 135, 136, 137, 138, 139, 140, 141, 142, 143, 144, 145, 146, 147, 148, 149, 150, 151, 152, 153, 154, 155, 156, 157, 158, 159, 160, 161, 162, 163, 164, 165, 166, 167, 168, 229, 213, 214, 215, 288, 289, 290, 291, 292, 293, 294, 295, 296, 297, 298, 299, 304, 305, 306, 307, 308, 309, 310] (by decide +kernel) (by decide +kernel)
set_option maxRecDepth 20000 in
theorem gL_tries_X6_step : GoodIn wsL_tries (wsV RL 51 RX6 yX6_step wsX6_step) := goodIn_app (goodIn_of _ (by decide +kernel)) ggL_tries_X6_step
set_option maxRecDepth 20000 in
theorem ggL_tries_X6_stroke : GoodIn wsL_tries wsX6_stroke := goodIn_r _ [233, 6, 234, 235, 236, 12, 237, 14, 90, 91, 4, 92, 93, 94, 95, 111, 112, 18, 113, 238, 239, 240, 241, 8, 242, 243, 244, 245, 246, 247, 248, 249, 250, 251, 252, 253, 97, 98, 99, 100, 101, 102, 103, 104, 15, 254, 255, 256, 257, 258, 259, 260, 261, 114, 115, 116, 117, 109, 87, 88, 89, 288, 289, 290, 291, 292, 293, 294, 295, 296, 297, 298, 299, 302, 303] (by decide +kernel) (by decide +kernel)
set_option maxRecDepth 20000 in
theorem gL_tries_X6_stroke : GoodIn wsL_tries (wsV RL 21 RX6 yX6_stroke wsX6_stroke) := goodIn_app (goodIn_of _ (by decide +kernel)) ggL_tries_X6_stroke
set_option maxRecDepth 20000 in
theorem ggL_tries_L_repeated_wsL_repeated_r1 : GoodIn wsL_tries (Cond.code yL_repeated cL_repeated 5 (some .int) :: wsL_repeated_r1) := goodIn_r _ [264, 1, 2, 3, 4, 5, 6, 7, 8, 9, 10, 11, 12, 13, 14, 15, 16, 17, 18, 19, 20, 21, 22, 23, 24] rfl (by decide +kernel)
set_option maxRecDepth 20000 in
theorem ggL_tries_L_repeated_wsL_repeated_r2 : GoodIn wsL_tries wsL_repeated_r2 := goodIn_r _ [25, 26, 27, 28, 29, 30, 31, 32, 33, 34, 35, 36, 37, 38, 39, 40, 41, 42, 43, 44, 45, 46, 47, 48] rfl (by decide +kernel)
set_option maxRecDepth 20000 in
theorem ggL_tries_L_repeated_wsL_repeated_r3 : GoodIn wsL_tries wsL_repeated_r3 := goodIn_r _ [49, 50, 51, 52, 53, 54, 55, 56, 57, 58, 59, 60, 61, 62, 63, 64, 65, 66, 67, 68, 69, 70, 71, 72] rfl (by decide +kernel)
set_option maxRecDepth 20000 in
theorem ggL_tries_L_repeated_wsL_repeated_r4 : GoodIn wsL_tries wsL_repeated_r4 := goodIn_r _ [73, 74, 75, 76, 77, 78, 79, 216, 217, 218, 219, 86, 87, 88, 89, 105, 106, 107, 108, 109, 220, 221, 110, 222] rfl (by decide +kernel)
set_option maxRecDepth 20000 in
theorem ggL_tries_L_repeated_wsL_repeated_r5 : GoodIn wsL_tries wsL_repeated_r5 := goodIn_r _ [223, 224, 225, 226, 227, 228, 85, 118, 119, 120, 121, 122, 123, 124, 125, 126, 127, 128, 129, 130, 131, 132, 133, 134] rfl (by decide +kernel)
set_option maxRecDepth 20000 in
theorem ggL_tries_L_repeated_wsL_repeated_r6 : GoodIn wsL_tries wsL_repeated_r6 := goodIn_r _ [135, 136, 137, 138, 139, 140, 141, 142, 143, 144, 145, 146, 147, 148, 149, 150, 151, 152, 153, 154, 155, 156, 157, 158] rfl (by decide +kernel)
set_option maxRecDepth 20000 in
theorem ggL_tries_L_repeated_wsL_repeated_r7 : GoodIn wsL_tries wsL_repeated_r7 := goodIn_r _ [159, 160, 161, 162, 163, 164, 165, 166, 167, 168, 229, 213, 214, 215] rfl (by decide +kernel)
set_option maxRecDepth 20000 in
theorem ggL_tries_L_repeated_wsX60 : GoodIn wsL_tries wsX60 := goodIn_r _ [288, 289, 290, 291, 292, 293, 294, 295, 296] rfl (by decide +kernel)
set_option maxRecDepth 20000 in
theorem ggL_tries_L_repeated_wsX20 : GoodIn wsL_tries wsX20 := goodIn_r _ [297, 298, 299] rfl (by decide +kernel)
set_option maxRecDepth 20000 in
theorem ggL_tries_L_repeated_wsX10 : GoodIn wsL_tries wsX10 := goodIn_r _ [300, 301] rfl (by decide +kernel)
set_option maxRecDepth 20000 in
theorem ggL_tries_L_repeated_wsX00 : GoodIn wsL_tries wsX00 := goodIn_r _ [302, 303] rfl (by decide +kernel)
set_option maxRecDepth 20000 in
theorem ggL_tries_L_repeated_wsX30 : GoodIn wsL_tries wsX30 := goodIn_r _ [304, 305, 306, 307, 308, 309, 310] rfl (by decide +kernel)
theorem ggL_tries_L_repeated : GoodIn wsL_tries wsL_repeated := goodIn_ca (goodIn_ca (goodIn_ca (goodIn_ca (goodIn_ca (goodIn_ca (ggL_tries_L_repeated_wsL_repeated_r1) (goodIn_app (ggL_tries_L_repeated_wsL_repeated_r2) (goodIn_app (ggL_tries_L_repeated_wsL_repeated_r3) (goodIn_app (ggL_tries_L_repeated_wsL_repeated_r4) (goodIn_app (ggL_tries_L_repeated_wsL_repeated_r5) (goodIn_app (ggL_tries_L_repeated_wsL_repeated_r6) (ggL_tries_L_repeated_wsL_repeated_r7))))))) (ggL_tries_L_repeated_wsX60)) (ggL_tries_L_repeated_wsX20)) (ggL_tries_L_repeated_wsX10)) (ggL_tries_L_repeated_wsX00)) (ggL_tries_L_repeated_wsX30)
set_option maxRecDepth 20000 in
theorem gL_tries_L_repeated : GoodIn wsL_tries (va_wsS RL 66 yL_repeated wsL_repeated) := goodIn_app (goodIn_of _ (by decide +kernel)) ggL_tries_L_repeated
set_option maxRecDepth 20000 in
theorem ggL_tries_X6_undo : GoodIn wsL_tries wsX6_undo := goodIn_r _ [268, 8, 6, 269, 270, 271, 245, 272, 247, 248, 253, 97, 98, 12, 99, 100, 101, 102, 103, 104, 14, 15, 288, 289, 290, 291, 292, 293, 294, 295, 296, 302, 303, 297, 298, 299] (by decide +kernel) (by decide +kernel)
set_option maxRecDepth 20000 in
theorem gL_tries_X6_undo : GoodIn wsL_tries (wsV RL 99 RX6 yX6_undo wsX6_undo) := goodIn_app (goodIn_of _ (by decide +kernel)) ggL_tries_X6_undo
set_option maxRecDepth 20000 in
theorem ggL_tries_X6_mirror : GoodIn wsL_tries wsX6_mirror := goodIn_r _ [276, 8, 6, 242, 243, 244, 245, 246, 247, 248, 249, 250, 251, 252, 253, 97, 98, 12, 99, 100, 101, 102, 103, 104, 14, 15, 105, 106, 107, 108, 109, 87, 88, 89, 220, 17, 18, 19, 221, 25, 26, 277, 278, 4, 279, 280, 281, 282, 64, 32, 33, 49, 39, 40, 283, 112, 113, 114, 115, 116, 117, 288, 289, 290, 291, 292, 293, 294, 295, 296, 297, 298, 299, 302, 303] (by decide +kernel) (by decide +kernel)
set_option maxRecDepth 20000 in
theorem gL_tries_X6_mirror : GoodIn wsL_tries (wsV RL 34 RX6 yX6_mirror wsX6_mirror) := goodIn_app (goodIn_of _ (by decide +kernel)) ggL_tries_X6_mirror
set_option maxRecDepth 20000 in
theorem ggL_tries_X6_turn : GoodIn wsL_tries wsX6_turn := goodIn_r _ [287, 6, 8, 84, 234, 235, 236, 12, 237, 14, 242, 243, 244, 245, 246, 247, 248, 249, 250, 251, 252, 253, 97, 98, 99, 100, 101, 102, 103, 104, 15, 96, 105, 106, 107, 108, 109, 87, 88, 89, 114, 115, 116, 117, 288, 289, 290, 291, 292, 293, 294, 295, 296, 297, 298, 299, 302, 303] (by decide +kernel) (by decide +kernel)
set_option maxRecDepth 20000 in
theorem gL_tries_X6_turn : GoodIn wsL_tries (wsV RL 38 RX6 yX6_turn wsX6_turn) := goodIn_app (goodIn_of _ (by decide +kernel)) ggL_tries_X6_turn
