set_option maxRecDepth 20000 in
theorem ggL_holds_L_areStickings_wsL_areStickings_r1 : GoodIn wsL_holds (Cond.code yL_areStickings cL_areStickings 13 (some .boolean) :: wsL_areStickings_r1) := goodIn_r _ [187, 188, 1, 2, 3, 4, 5, 6, 7, 8, 9, 10, 11, 12, 13, 14, 15, 16, 17, 18, 19, 20, 21, 22, 23] rfl (by decide +kernel)
set_option maxRecDepth 20000 in
theorem ggL_holds_L_areStickings_wsL_areStickings_r2 : GoodIn wsL_holds wsL_areStickings_r2 := goodIn_r _ [24, 25, 26, 27, 28, 29, 30, 31, 32, 33, 34, 35, 36, 37, 38, 39, 40, 41, 42, 43, 44, 45, 46, 47] rfl (by decide +kernel)
set_option maxRecDepth 20000 in
theorem ggL_holds_L_areStickings_wsL_areStickings_r3 : GoodIn wsL_holds wsL_areStickings_r3 := goodIn_r _ [48, 49, 50, 51, 52, 53, 54, 55, 56, 57, 58, 59, 60, 61, 62, 63, 64, 65, 66, 67, 68, 69, 70, 71] rfl (by decide +kernel)
set_option maxRecDepth 20000 in
theorem ggL_holds_L_areStickings_wsL_areStickings_r4 : GoodIn wsL_holds wsL_areStickings_r4 := goodIn_r _ [72, 73, 74, 75, 76, 77, 78, 79, 80, 81, 82, 83, 84, 85, 86, 87, 88, 89, 90, 91, 92, 93, 94, 95] rfl (by decide +kernel)
set_option maxRecDepth 20000 in
theorem ggL_holds_L_areStickings_wsL_areStickings_r5 : GoodIn wsL_holds wsL_areStickings_r5 := goodIn_r _ [96, 97, 98, 99, 100, 101, 102, 103, 104, 105, 106, 107, 108, 109, 110, 111, 112, 113, 114, 115, 116, 117, 118, 119] rfl (by decide +kernel)
set_option maxRecDepth 20000 in
theorem ggL_holds_L_areStickings_wsL_areStickings_r6 : GoodIn wsL_holds wsL_areStickings_r6 := goodIn_r _ [120, 121, 122, 123, 124, 125, 126, 127, 128, 129, 130, 131, 132, 133, 134, 135, 136, 137, 138, 139, 140, 141, 142, 143] rfl (by decide +kernel)
set_option maxRecDepth 20000 in
theorem ggL_holds_L_areStickings_wsL_areStickings_r7 : GoodIn wsL_holds wsL_areStickings_r7 := goodIn_r _ [144, 145, 146, 147, 148, 149, 150, 151, 152, 153, 154, 155, 156, 157, 158, 189, 190, 186, 191, 192, 193, 194, 195, 196] rfl (by decide +kernel)
set_option maxRecDepth 20000 in
theorem ggL_holds_L_areStickings_wsL_areStickings_r8 : GoodIn wsL_holds wsL_areStickings_r8 := goodIn_r _ [197, 198, 199, 200, 201, 202, 203, 204, 205, 206, 207, 208, 209, 210, 211, 212, 213, 214, 215, 216, 217, 218, 219, 220] rfl (by decide +kernel)
set_option maxRecDepth 20000 in
theorem ggL_holds_L_areStickings_wsL_areStickings_r9 : GoodIn wsL_holds wsL_areStickings_r9 := goodIn_r _ [221, 222, 223, 224, 225, 226, 227, 228, 229, 230, 231, 232, 233, 234, 235, 236, 237, 238, 239, 240, 241, 242, 243, 244] rfl (by decide +kernel)
set_option maxRecDepth 20000 in
theorem ggL_holds_L_areStickings_wsL_areStickings_r10 : GoodIn wsL_holds wsL_areStickings_r10 := goodIn_r _ [245, 246, 247, 248, 249, 250, 251, 252, 253, 254, 255, 256, 257, 258, 259, 260, 261, 262] rfl (by decide +kernel)
set_option maxRecDepth 20000 in
theorem ggL_holds_L_areStickings_wsX60 : GoodIn wsL_holds wsX60 := goodIn_r _ [271, 272, 273, 274, 275, 276, 277, 278, 279] rfl (by decide +kernel)
set_option maxRecDepth 20000 in
theorem ggL_holds_L_areStickings_wsX20 : GoodIn wsL_holds wsX20 := goodIn_r _ [280, 281, 282] rfl (by decide +kernel)
set_option maxRecDepth 20000 in
theorem ggL_holds_L_areStickings_wsX10 : GoodIn wsL_holds wsX10 := goodIn_r _ [283, 284] rfl (by decide +kernel)
set_option maxRecDepth 20000 in
theorem ggL_holds_L_areStickings_wsX00 : GoodIn wsL_holds wsX00 := goodIn_r _ [285, 286] rfl (by decide +kernel)
set_option maxRecDepth 20000 in
theorem ggL_holds_L_areStickings_wsX30 : GoodIn wsL_holds wsX30 := goodIn_r _ [287, 288, 289, 290, 291, 292, 293] rfl (by decide +kernel)
theorem ggL_holds_L_areStickings : GoodIn wsL_holds wsL_areStickings := goodIn_ca (goodIn_ca (goodIn_ca (goodIn_ca (goodIn_ca (goodIn_ca (ggL_holds_L_areStickings_wsL_areStickings_r1) (goodIn_app (ggL_holds_L_areStickings_wsL_areStickings_r2) (goodIn_app (ggL_holds_L_areStickings_wsL_areStickings_r3) (goodIn_app (ggL_holds_L_areStickings_wsL_areStickings_r4) (goodIn_app (ggL_holds_L_areStickings_wsL_areStickings_r5) (goodIn_app (ggL_holds_L_areStickings_wsL_areStickings_r6) (goodIn_app (ggL_holds_L_areStickings_wsL_areStickings_r7) (goodIn_app (ggL_holds_L_areStickings_wsL_areStickings_r8) (goodIn_app (ggL_holds_L_areStickings_wsL_areStickings_r9) (ggL_holds_L_areStickings_wsL_areStickings_r10)))))))))) (ggL_holds_L_areStickings_wsX60)) (ggL_holds_L_areStickings_wsX20)) (ggL_holds_L_areStickings_wsX10)) (ggL_holds_L_areStickings_wsX00)) (ggL_holds_L_areStickings_wsX30)
set_option maxRecDepth 20000 in
theorem gL_holds_L_areStickings : GoodIn wsL_holds (va_wsS RL 89 yL_areStickings wsL_areStickings) := goodIn_app (goodIn_of _ (by decide +kernel)) ggL_holds_L_areStickings
