set_option maxRecDepth 20000 in
theorem ggL_law_X6_init : GoodIn wsL_law wsX6_init := goodIn_r _ [5, 6, 7, 8, 9, 10, 11, 12, 13, 14, 15, 16, 17, 18, 19, 20, 21, 22, 23, 24, 25, 26, 27, 28, 29, 30, 31, 32, 33, 34, 35, 36, 37, 38, 39, 40, 41, 42, 43, 44, 45, 46, 47, 48, 49, 50, 51, 52, 53, 54, 55, 56, 57, 58, 59, 60, 61, 62, 63, 64, 65, 66, 67, 68, 69, 70, 71, 72, 73, 74, 75, 76, 77, 78, 79, 80, 81, 82, 83, 84, 85, 86, 87, 88, 89, 470, 471, 472, 461, 462, 463, 464, 465, 466, 467, 468, 469, 473, 474, 475, 476, 477, 478, 479, 480, 481, 482, 483, 484, 485] (by decide +kernel) (by decide +kernel)
set_option maxRecDepth 20000 in
theorem gL_law_X6_init : GoodIn wsL_law (wsX6_init) := ggL_law_X6_init
set_option maxRecDepth 20000 in
theorem ggL_law_L_holds_wsL_holds_r1 : GoodIn wsL_law (Cond.code yL_holds cL_holds 11 (some .boolean) :: wsL_holds_r1) := goodIn_r _ [93, 94, 95, 96, 2, 97, 12, 22, 18, 98, 99, 100, 11, 101, 39, 38, 102, 103, 82, 104, 105, 106, 107, 108, 109] rfl (by decide +kernel)
set_option maxRecDepth 20000 in
theorem ggL_law_L_holds_wsL_holds_r2 : GoodIn wsL_law wsL_holds_r2 := goodIn_r _ [110, 111, 112, 113, 114, 115, 116, 117, 118, 119, 120, 121, 122, 123, 124, 125, 126, 127, 128, 129, 130, 131, 132, 133] rfl (by decide +kernel)
set_option maxRecDepth 20000 in
theorem ggL_law_L_holds_wsL_holds_r3 : GoodIn wsL_law wsL_holds_r3 := goodIn_r _ [134, 135, 81, 83, 136, 137, 138, 139, 140, 141, 142, 143, 144, 145, 146, 147, 148, 149, 150, 151, 152, 153, 78, 154] rfl (by decide +kernel)
set_option maxRecDepth 20000 in
theorem ggL_law_L_holds_wsL_holds_r4 : GoodIn wsL_law wsL_holds_r4 := goodIn_r _ [155, 156, 157, 158, 159, 160, 161, 162, 163, 164, 165, 166, 167, 168, 169, 170, 171, 172, 173, 174, 175, 176, 177, 178] rfl (by decide +kernel)
set_option maxRecDepth 20000 in
theorem ggL_law_L_holds_wsL_holds_r5 : GoodIn wsL_law wsL_holds_r5 := goodIn_r _ [179, 180, 181, 182, 183, 184, 30, 185, 186, 187, 29, 188, 72, 66, 70, 189, 190, 191, 192, 76, 77, 79, 68, 69] rfl (by decide +kernel)
set_option maxRecDepth 20000 in
theorem ggL_law_L_holds_wsL_holds_r6 : GoodIn wsL_law wsL_holds_r6 := goodIn_r _ [193, 194, 195, 196, 197, 198, 199, 65, 200, 201, 202, 203, 204, 205, 206, 207, 208, 71, 209, 210, 211, 212, 213, 214] rfl (by decide +kernel)
set_option maxRecDepth 20000 in
theorem ggL_law_L_holds_wsL_holds_r7 : GoodIn wsL_law wsL_holds_r7 := goodIn_r _ [215, 216, 217, 218, 219, 220, 221, 222, 223, 224, 225, 226, 227, 228, 229, 230, 231, 232, 233, 234, 235, 236, 88, 89] rfl (by decide +kernel)
set_option maxRecDepth 20000 in
theorem ggL_law_L_holds_wsL_holds_r8 : GoodIn wsL_law wsL_holds_r8 := goodIn_r _ [237, 238, 239, 240, 241, 242, 243, 244, 245, 246, 247, 248, 249, 250, 251, 252, 253, 92, 254, 255, 256, 257, 258, 259] rfl (by decide +kernel)
set_option maxRecDepth 20000 in
theorem ggL_law_L_holds_wsL_holds_r9 : GoodIn wsL_law wsL_holds_r9 := goodIn_r _ [260, 261, 262, 263, 264, 265, 266, 267, 268, 269, 270, 271, 272, 273, 274, 275, 276, 277, 278, 279, 280, 281, 282, 283] rfl (by decide +kernel)
set_option maxRecDepth 20000 in
theorem ggL_law_L_holds_wsL_holds_r10 : GoodIn wsL_law wsL_holds_r10 := goodIn_r _ [284, 285, 286, 287, 288, 289, 290, 291, 292, 293, 294, 295, 296, 297, 298, 299, 300, 301, 302, 303, 304, 305, 306, 13] rfl (by decide +kernel)
set_option maxRecDepth 20000 in
theorem ggL_law_L_holds_wsL_holds_r11 : GoodIn wsL_law wsL_holds_r11 := goodIn_r _ [307, 308, 309, 310, 40, 311, 312, 313, 314, 315, 316, 317, 318, 319, 320, 321, 322, 323, 85, 86, 324, 325, 326, 327] rfl (by decide +kernel)
set_option maxRecDepth 20000 in
theorem ggL_law_L_holds_wsL_holds_r12 : GoodIn wsL_law wsL_holds_r12 := goodIn_r _ [328, 329, 330, 331, 332, 333] rfl (by decide +kernel)
set_option maxRecDepth 20000 in
theorem ggL_law_L_holds_wsX60 : GoodIn wsL_law wsX60 := goodIn_r _ [461, 462, 463, 464, 465, 466, 467, 468, 469] rfl (by decide +kernel)
set_option maxRecDepth 20000 in
theorem ggL_law_L_holds_wsX20 : GoodIn wsL_law wsX20 := goodIn_r _ [470, 471, 472] rfl (by decide +kernel)
set_option maxRecDepth 20000 in
theorem ggL_law_L_holds_wsX10 : GoodIn wsL_law wsX10 := goodIn_r _ [475, 476] rfl (by decide +kernel)
set_option maxRecDepth 20000 in
theorem ggL_law_L_holds_wsX00 : GoodIn wsL_law wsX00 := goodIn_r _ [473, 474] rfl (by decide +kernel)
set_option maxRecDepth 20000 in
theorem ggL_law_L_holds_wsX30 : GoodIn wsL_law wsX30 := goodIn_r _ [479, 480, 481, 482, 483, 484, 485] rfl (by decide +kernel)
theorem ggL_law_L_holds : GoodIn wsL_law wsL_holds := goodIn_ca (goodIn_ca (goodIn_ca (goodIn_ca (goodIn_ca (goodIn_ca (ggL_law_L_holds_wsL_holds_r1) (goodIn_app (ggL_law_L_holds_wsL_holds_r2) (goodIn_app (ggL_law_L_holds_wsL_holds_r3) (goodIn_app (ggL_law_L_holds_wsL_holds_r4) (goodIn_app (ggL_law_L_holds_wsL_holds_r5) (goodIn_app (ggL_law_L_holds_wsL_holds_r6) (goodIn_app (ggL_law_L_holds_wsL_holds_r7) (goodIn_app (ggL_law_L_holds_wsL_holds_r8) (goodIn_app (ggL_law_L_holds_wsL_holds_r9) (goodIn_app (ggL_law_L_holds_wsL_holds_r10) (goodIn_app (ggL_law_L_holds_wsL_holds_r11) (ggL_law_L_holds_wsL_holds_r12)))))))))))) (ggL_law_L_holds_wsX60)) (ggL_law_L_holds_wsX20)) (ggL_law_L_holds_wsX10)) (ggL_law_L_holds_wsX00)) (ggL_law_L_holds_wsX30)
set_option maxRecDepth 20000 in
theorem gL_law_L_holds : GoodIn wsL_law (va_wsS RL 103 yL_holds wsL_holds) := goodIn_app (goodIn_of _ (by decide +kernel)) ggL_law_L_holds
set_option maxRecDepth 20000 in
theorem ggL_law_X6_undo : GoodIn wsL_law wsX6_undo := goodIn_r _ [337, 18, 12, 338, 339, 340, 17, 341, 47, 46, 342, 308, 309, 11, 310, 40, 311, 312, 313, 314, 39, 38, 461, 462, 463, 464, 465, 466, 467, 468, 469, 473, 474, 470, 471, 472] (by decide +kernel) (by decide +kernel)
set_option maxRecDepth 20000 in
theorem gL_law_X6_undo : GoodIn wsL_law (wsV RL 99 RX6 yX6_undo wsX6_undo) := goodIn_app (goodIn_of _ (by decide +kernel)) ggL_law_X6_undo
set_option maxRecDepth 20000 in
theorem ggL_law_X6_clear : GoodIn wsL_law wsX6_clear := goodIn_r _ [346, 22, 461, 462, 463, 464, 465, 466, 467, 468, 469, 475, 476] (by decide +kernel) (by decide +kernel)
set_option maxRecDepth 20000 in
theorem gL_law_X6_clear : GoodIn wsL_law (wsV RL 106 RX6 yX6_clear wsX6_clear) := goodIn_app (goodIn_of _ (by decide +kernel)) ggL_law_X6_clear
set_option maxRecDepth 20000 in
theorem ggL_law_X6_count : GoodIn wsL_law wsX6_count := goodIn_r _ [97, 12, 22, 18, 98, 99, 100, 11, 101, 39, 38, 102, 103, 82, 104, 105, 106, 107, 108, 109, 110, 111, 112, 113, 114, 115, 116, 117, 118, 119, 120, 121, 122, 123, 124, 125, 126, 127, 128, 129, 130, 131, 132, 133, 134, 135, 81, 83, 136, 137, 138, 139, 140, 141, 142, 143, 144, 145, 146, 147, 148, 149, 150, 151, 152, 153, 78, 154, 155, 156, 157, 158, 159, 160, 161, 461, 462, 463, 464, 465, 466, 467, 468, 469, 470, 471, 472, 475, 476, 473, 474] (by decide +kernel) (by decide +kernel)
set_option maxRecDepth 20000 in
theorem gL_law_X6_count : GoodIn wsL_law (wsV RL 9 RX6 yX6_count wsX6_count) := goodIn_app (goodIn_of _ (by decide +kernel)) ggL_law_X6_count
set_option maxRecDepth 20000 in
theorem ggL_law_L_cell : GoodIn wsL_law wsL_cell := goodIn_r _ [349, 350] (by decide +kernel) (by decide +kernel)
set_option maxRecDepth 20000 in
theorem gL_law_L_cell : GoodIn wsL_law (va_wsS RL 109 yL_cell wsL_cell) := goodIn_app (goodIn_of _ (by decide +kernel)) ggL_law_L_cell
set_option maxRecDepth 20000 in
theorem ggL_law_L_low : GoodIn wsL_law wsL_low := goodIn_r _ [353, 354] (by decide +kernel) (by decide +kernel)
set_option maxRecDepth 20000 in
theorem gL_law_L_low : GoodIn wsL_law (va_wsS RL 15 yL_low wsL_low) := goodIn_app (goodIn_of _ (by decide +kernel)) ggL_law_L_low
set_option maxRecDepth 20000 in
theorem ggL_law_L_change_wsL_change_r1 : GoodIn wsL_law (Cond.code yL_change cL_change 6 (some .int) :: wsL_change_r1) := goodIn_r _ [357, 94, 95, 96, 2, 97, 12, 22, 18, 98, 99, 100, 11, 101, 39, 38, 102, 103, 82, 104, 105, 106, 107, 108, 109] rfl (by decide +kernel)
set_option maxRecDepth 20000 in
theorem ggL_law_L_change_wsL_change_r2 : GoodIn wsL_law wsL_change_r2 := goodIn_r _ [110, 111, 112, 113, 114, 115, 116, 117, 118, 119, 120, 121, 122, 123, 124, 125, 126, 127, 128, 129, 130, 131, 132, 133] rfl (by decide +kernel)
set_option maxRecDepth 20000 in
theorem ggL_law_L_change_wsL_change_r3 : GoodIn wsL_law wsL_change_r3 := goodIn_r _ [134, 135, 81, 83, 136, 137, 138, 139, 140, 141, 142, 143, 144, 145, 146, 147, 148, 149, 150, 151, 152, 153, 78, 154] rfl (by decide +kernel)
set_option maxRecDepth 20000 in
theorem ggL_law_L_change_wsL_change_r4 : GoodIn wsL_law wsL_change_r4 := goodIn_r _ [155, 156, 157, 158, 159, 160, 161, 351, 352, 92, 353, 354, 358, 359, 360, 361, 362, 363, 364, 365, 366, 367, 368, 369] rfl (by decide +kernel)
set_option maxRecDepth 20000 in
theorem ggL_law_L_change_wsL_change_r5 : GoodIn wsL_law wsL_change_r5 := goodIn_r _ [370, 371, 372, 373, 374, 375, 376, 377, 378, 379, 380, 381, 17, 382, 47, 46, 383, 384, 385, 386, 342, 308, 309, 310] rfl (by decide +kernel)
set_option maxRecDepth 20000 in
theorem ggL_law_L_change_wsL_change_r6 : GoodIn wsL_law wsL_change_r6 := goodIn_r _ [40, 311, 312, 313, 314, 387, 388, 389, 390, 391, 392, 393, 394, 395, 396, 397, 398, 174, 167, 168, 169, 399, 400, 401] rfl (by decide +kernel)
set_option maxRecDepth 20000 in
theorem ggL_law_L_change_wsL_change_r7 : GoodIn wsL_law wsL_change_r7 := goodIn_r _ [402, 403, 404, 405, 406, 166, 407, 170, 171, 172, 173, 408, 409, 410, 411, 412, 413, 414, 415, 416, 417, 418, 419, 420] rfl (by decide +kernel)
set_option maxRecDepth 20000 in
theorem ggL_law_L_change_wsL_change_r8 : GoodIn wsL_law wsL_change_r8 := goodIn_r _ [421, 422, 423, 424, 425, 175, 176, 426, 324, 325, 427, 428, 429, 430, 431, 432, 433, 434, 13, 307, 435, 436, 437, 438] rfl (by decide +kernel)
set_option maxRecDepth 20000 in
theorem ggL_law_L_change_wsL_change_r9 : GoodIn wsL_law wsL_change_r9 := goodIn_r _ [178, 439, 440, 441, 248, 442, 443, 444, 445, 446, 447, 448, 449, 30, 185, 186, 187, 29, 188, 72, 66, 70, 189, 190] rfl (by decide +kernel)
set_option maxRecDepth 20000 in
theorem ggL_law_L_change_wsL_change_r10 : GoodIn wsL_law wsL_change_r10 := goodIn_r _ [191, 192, 76, 77, 79, 68, 69, 193, 194, 195, 196, 197, 198, 199, 65, 200, 201, 202, 203, 204, 205, 206, 207, 208] rfl (by decide +kernel)
set_option maxRecDepth 20000 in
theorem ggL_law_L_change_wsL_change_r11 : GoodIn wsL_law wsL_change_r11 := goodIn_r _ [71, 209, 210, 211, 212, 213, 214, 215, 216, 217, 218, 219, 220, 221, 222, 223, 224, 225, 226, 227, 228] rfl (by decide +kernel)
set_option maxRecDepth 20000 in
theorem ggL_law_L_change_wsX60 : GoodIn wsL_law wsX60 := goodIn_r _ [461, 462, 463, 464, 465, 466, 467, 468, 469] rfl (by decide +kernel)
set_option maxRecDepth 20000 in
theorem ggL_law_L_change_wsX20 : GoodIn wsL_law wsX20 := goodIn_r _ [470, 471, 472] rfl (by decide +kernel)
set_option maxRecDepth 20000 in
theorem ggL_law_L_change_wsX10 : GoodIn wsL_law wsX10 := goodIn_r _ [475, 476] rfl (by decide +kernel)
set_option maxRecDepth 20000 in
theorem ggL_law_L_change_wsX00 : GoodIn wsL_law wsX00 := goodIn_r _ [473, 474] rfl (by decide +kernel)
set_option maxRecDepth 20000 in
theorem ggL_law_L_change_wsX30 : GoodIn wsL_law wsX30 := goodIn_r _ [479, 480, 481, 482, 483, 484, 485] rfl (by decide +kernel)
theorem ggL_law_L_change : GoodIn wsL_law wsL_change := goodIn_ca (goodIn_ca (goodIn_ca (goodIn_ca (goodIn_ca (goodIn_ca (ggL_law_L_change_wsL_change_r1) (goodIn_app (ggL_law_L_change_wsL_change_r2) (goodIn_app (ggL_law_L_change_wsL_change_r3) (goodIn_app (ggL_law_L_change_wsL_change_r4) (goodIn_app (ggL_law_L_change_wsL_change_r5) (goodIn_app (ggL_law_L_change_wsL_change_r6) (goodIn_app (ggL_law_L_change_wsL_change_r7) (goodIn_app (ggL_law_L_change_wsL_change_r8) (goodIn_app (ggL_law_L_change_wsL_change_r9) (goodIn_app (ggL_law_L_change_wsL_change_r10) (ggL_law_L_change_wsL_change_r11))))))))))) (ggL_law_L_change_wsX60)) (ggL_law_L_change_wsX20)) (ggL_law_L_change_wsX10)) (ggL_law_L_change_wsX00)) (ggL_law_L_change_wsX30)
set_option maxRecDepth 20000 in
theorem gL_law_L_change : GoodIn wsL_law (va_wsS RL 113 yL_change wsL_change) := goodIn_app (goodIn_of _ (by decide +kernel)) ggL_law_L_change
set_option maxRecDepth 20000 in
theorem ggL_law_L_tries_wsL_tries_r1 : GoodIn wsL_law (Cond.code yL_tries cL_tries 14 (some .boolean) :: wsL_tries_r1) := goodIn_r _ [452, 94, 95, 96, 2, 97, 12, 22, 18, 98, 99, 100, 11, 101, 39, 38, 102, 103, 82, 104, 105, 106, 107, 108, 109] rfl (by decide +kernel)
set_option maxRecDepth 20000 in
theorem ggL_law_L_tries_wsL_tries_r2 : GoodIn wsL_law wsL_tries_r2 := goodIn_r _ [110, 111, 112, 113, 114, 115, 116, 117, 118, 119, 120, 121, 122, 123, 124, 125, 126, 127, 128, 129, 130, 131, 132, 133] rfl (by decide +kernel)
set_option maxRecDepth 20000 in
theorem ggL_law_L_tries_wsL_tries_r3 : GoodIn wsL_law wsL_tries_r3 := goodIn_r _ [134, 135, 81, 83, 136, 137, 138, 139, 140, 141, 142, 143, 144, 145, 146, 147, 148, 149, 150, 151, 152, 153, 78, 154] rfl (by decide +kernel)
set_option maxRecDepth 20000 in
theorem ggL_law_L_tries_wsL_tries_r4 : GoodIn wsL_law wsL_tries_r4 := goodIn_r _ [155, 156, 157, 158, 159, 160, 161, 453, 454, 455, 456, 13, 30, 166, 167, 168, 169, 366, 367, 368, 369, 370, 371, 307] rfl (by decide +kernel)
set_option maxRecDepth 20000 in
theorem ggL_law_L_tries_wsL_tries_r5 : GoodIn wsL_law wsL_tries_r5 := goodIn_r _ [308, 309, 310, 40, 311, 312, 313, 314, 170, 171, 172, 173, 174, 177, 372, 373, 374, 395, 396, 397, 398, 185, 186, 187] rfl (by decide +kernel)
set_option maxRecDepth 20000 in
theorem ggL_law_L_tries_wsL_tries_r6 : GoodIn wsL_law wsL_tries_r6 := goodIn_r _ [29, 188, 72, 66, 70, 189, 190, 191, 192, 76, 77, 79, 68, 69, 193, 194, 195, 196, 197, 198, 199, 65, 200, 201] rfl (by decide +kernel)
set_option maxRecDepth 20000 in
theorem ggL_law_L_tries_wsL_tries_r7 : GoodIn wsL_law wsL_tries_r7 := goodIn_r _ [202, 203, 204, 205, 206, 207, 208, 71, 209, 210, 211, 212, 213, 214, 215, 216, 217, 218, 219, 220, 221, 222, 223, 224] rfl (by decide +kernel)
set_option maxRecDepth 20000 in
theorem ggL_law_L_tries_wsL_tries_r8 : GoodIn wsL_law wsL_tries_r8 := goodIn_r _ [457, 458, 459, 460, 286, 287, 288, 289, 290, 291, 292, 293, 294, 295, 296, 297, 298, 299, 300, 301, 302, 351, 352, 92] rfl (by decide +kernel)
set_option maxRecDepth 20000 in
theorem ggL_law_L_tries_wsL_tries_r9 : GoodIn wsL_law wsL_tries_r9 := goodIn_r _ [353, 354, 268, 269, 270, 271, 272, 273, 274, 275, 276, 277, 278, 279, 280, 281, 282, 283, 284, 285, 226, 227, 228, 162] rfl (by decide +kernel)
set_option maxRecDepth 20000 in
theorem ggL_law_L_tries_wsL_tries_r10 : GoodIn wsL_law wsL_tries_r10 := goodIn_r _ [163, 164, 165, 175, 176, 178, 179, 180, 181, 182, 183, 184, 225, 358, 359, 360, 361, 362, 363, 364, 365, 375, 376, 377] rfl (by decide +kernel)
set_option maxRecDepth 20000 in
theorem ggL_law_L_tries_wsL_tries_r11 : GoodIn wsL_law wsL_tries_r11 := goodIn_r _ [378, 379, 380, 381, 17, 382, 47, 46, 383, 384, 385, 386, 342, 387, 388, 389, 390, 391, 392, 393, 394, 265, 266, 267] rfl (by decide +kernel)
set_option maxRecDepth 20000 in
theorem ggL_law_L_tries_wsL_tries_r12 : GoodIn wsL_law wsL_tries_r12 := goodIn_r _ [334, 335, 336, 337, 338, 339, 340, 341, 422, 423, 424, 425, 426, 324, 325, 427, 428, 429, 430, 431, 432, 433, 434] rfl (by decide +kernel)
set_option maxRecDepth 20000 in
theorem ggL_law_L_tries_wsX60 : GoodIn wsL_law wsX60 := goodIn_r _ [461, 462, 463, 464, 465, 466, 467, 468, 469] rfl (by decide +kernel)
set_option maxRecDepth 20000 in
theorem ggL_law_L_tries_wsX20 : GoodIn wsL_law wsX20 := goodIn_r _ [470, 471, 472] rfl (by decide +kernel)
set_option maxRecDepth 20000 in
theorem ggL_law_L_tries_wsX10 : GoodIn wsL_law wsX10 := goodIn_r _ [475, 476] rfl (by decide +kernel)
set_option maxRecDepth 20000 in
theorem ggL_law_L_tries_wsX00 : GoodIn wsL_law wsX00 := goodIn_r _ [473, 474] rfl (by decide +kernel)
set_option maxRecDepth 20000 in
theorem ggL_law_L_tries_wsX30 : GoodIn wsL_law wsX30 := goodIn_r _ [479, 480, 481, 482, 483, 484, 485] rfl (by decide +kernel)
theorem ggL_law_L_tries : GoodIn wsL_law wsL_tries := goodIn_ca (goodIn_ca (goodIn_ca (goodIn_ca (goodIn_ca (goodIn_ca (ggL_law_L_tries_wsL_tries_r1) (goodIn_app (ggL_law_L_tries_wsL_tries_r2) (goodIn_app (ggL_law_L_tries_wsL_tries_r3) (goodIn_app (ggL_law_L_tries_wsL_tries_r4) (goodIn_app (ggL_law_L_tries_wsL_tries_r5) (goodIn_app (ggL_law_L_tries_wsL_tries_r6) (goodIn_app (ggL_law_L_tries_wsL_tries_r7) (goodIn_app (ggL_law_L_tries_wsL_tries_r8) (goodIn_app (ggL_law_L_tries_wsL_tries_r9) (goodIn_app (ggL_law_L_tries_wsL_tries_r10) (goodIn_app (ggL_law_L_tries_wsL_tries_r11) (ggL_law_L_tries_wsL_tries_r12)))))))))))) (ggL_law_L_tries_wsX60)) (ggL_law_L_tries_wsX20)) (ggL_law_L_tries_wsX10)) (ggL_law_L_tries_wsX00)) (ggL_law_L_tries_wsX30)
set_option maxRecDepth 20000 in
theorem gL_law_L_tries : GoodIn wsL_law (va_wsS RL 116 yL_tries wsL_tries) := goodIn_app (goodIn_of _ (by decide +kernel)) ggL_law_L_tries
