set_option maxRecDepth 20000 in
theorem gX6_count_X2_strokesWith : GoodIn wsX6_count (wsV RX6 194 RX2 yX2_strokesWith wsX2_strokesWith) := goodIn_app (goodIn_of _ (by decide +kernel)) ggX6_count_X2_strokesWith
set_option maxRecDepth 20000 in
theorem ggX6_count_X2_blows : GoodIn wsX6_count wsX2_blows := goodIn_r _ [39, 9, 10, 40, 41, 13, 42, 43, 12, 14, 44, 34, 35, 45, 46, 47, 84, 85, 86] (by decide +kernel) (by decide +kernel)
set_option maxRecDepth 20000 in
theorem gX6_count_X2_blows : GoodIn wsX6_count (wsV RX6 197 RX2 yX2_blows wsX2_blows) := goodIn_app (goodIn_of _ (by decide +kernel)) ggX6_count_X2_blows
set_option maxRecDepth 20000 in
theorem ggX6_count_X2_forces : GoodIn wsX6_count wsX2_forces := goodIn_r _ [51, 9, 10, 52, 53, 13, 54, 55, 41, 42, 43, 12, 14, 44, 34, 35, 45, 46, 47, 56, 57, 58, 59, 27, 28, 84, 85, 86] (by decide +kernel) (by decide +kernel)
set_option maxRecDepth 20000 in
theorem gX6_count_X2_forces : GoodIn wsX6_count (wsV RX6 199 RX2 yX2_forces wsX2_forces) := goodIn_app (goodIn_of _ (by decide +kernel)) ggX6_count_X2_forces
set_option maxRecDepth 20000 in
theorem ggX6_count_X2_longestRow : GoodIn wsX6_count wsX2_longestRow := goodIn_r _ [63, 9, 10, 64, 65, 66, 67, 11, 12, 13, 14, 84, 85, 86] (by decide +kernel) (by decide +kernel)
set_option maxRecDepth 20000 in
theorem gX6_count_X2_longestRow : GoodIn wsX6_count (wsV RX6 201 RX2 yX2_longestRow wsX2_longestRow) := goodIn_app (goodIn_of _ (by decide +kernel)) ggX6_count_X2_longestRow
set_option maxRecDepth 20000 in
theorem ggX6_count_X2_textLength : GoodIn wsX6_count wsX2_textLength := goodIn_r _ [71, 9, 10, 72, 73, 13, 74, 59, 27, 28, 44, 34, 35, 84, 85, 86] (by decide +kernel) (by decide +kernel)
set_option maxRecDepth 20000 in
theorem gX6_count_X2_textLength : GoodIn wsX6_count (wsV RX6 204 RX2 yX2_textLength wsX2_textLength) := goodIn_app (goodIn_of _ (by decide +kernel)) ggX6_count_X2_textLength
theorem dX6_count_0 : decode cX6_count 0 = .ok (.iload_n 1, 1) := by decide +kernel
theorem dX6_count_1 : decode cX6_count 1 = .ok (.tableswitch 221 0 15 #[79, 87, 103, 112, 121, 130, 138, 147, 156, 165, 173, 181, 189, 197, 205, 213], 79) := by decide +kernel
theorem dX6_count_80 : decode cX6_count 80 = .ok (.aload_n 0, 1) := by decide +kernel
theorem dX6_count_81 : decode cX6_count 81 = .ok (.getfield 10, 3) := by decide +kernel
theorem dX6_count_84 : decode cX6_count 84 = .ok (.getfield 97, 3) := by decide +kernel
theorem dX6_count_87 : decode cX6_count 87 = .ok (.ireturn, 1) := by decide +kernel
theorem dX6_count_88 : decode cX6_count 88 = .ok (.aload_n 0, 1) := by decide +kernel
theorem dX6_count_89 : decode cX6_count 89 = .ok (.getfield 10, 3) := by decide +kernel
theorem dX6_count_92 : decode cX6_count 92 = .ok (.getfield 97, 3) := by decide +kernel
theorem dX6_count_95 : decode cX6_count 95 = .ok (.aload_n 0, 1) := by decide +kernel
theorem dX6_count_96 : decode cX6_count 96 = .ok (.getfield 10, 3) := by decide +kernel
theorem dX6_count_99 : decode cX6_count 99 = .ok (.invokevirtual 188, 3) := by decide +kernel
theorem dX6_count_102 : decode cX6_count 102 = .ok (.isub, 1) := by decide +kernel
theorem dX6_count_103 : decode cX6_count 103 = .ok (.ireturn, 1) := by decide +kernel
theorem dX6_count_104 : decode cX6_count 104 = .ok (.aload_n 0, 1) := by decide +kernel
theorem dX6_count_105 : decode cX6_count 105 = .ok (.getfield 10, 3) := by decide +kernel
theorem dX6_count_108 : decode cX6_count 108 = .ok (.iconst 0, 1) := by decide +kernel
theorem dX6_count_109 : decode cX6_count 109 = .ok (.invokevirtual 174, 3) := by decide +kernel
theorem dX6_count_112 : decode cX6_count 112 = .ok (.ireturn, 1) := by decide +kernel
theorem dX6_count_113 : decode cX6_count 113 = .ok (.aload_n 0, 1) := by decide +kernel
theorem dX6_count_114 : decode cX6_count 114 = .ok (.getfield 10, 3) := by decide +kernel
theorem dX6_count_117 : decode cX6_count 117 = .ok (.iconst 1, 1) := by decide +kernel
theorem dX6_count_118 : decode cX6_count 118 = .ok (.invokevirtual 174, 3) := by decide +kernel
theorem dX6_count_121 : decode cX6_count 121 = .ok (.ireturn, 1) := by decide +kernel
theorem dX6_count_122 : decode cX6_count 122 = .ok (.aload_n 0, 1) := by decide +kernel
theorem dX6_count_123 : decode cX6_count 123 = .ok (.getfield 10, 3) := by decide +kernel
theorem dX6_count_126 : decode cX6_count 126 = .ok (.iconst 2, 1) := by decide +kernel
theorem dX6_count_127 : decode cX6_count 127 = .ok (.invokevirtual 174, 3) := by decide +kernel
theorem dX6_count_130 : decode cX6_count 130 = .ok (.ireturn, 1) := by decide +kernel
theorem dX6_count_131 : decode cX6_count 131 = .ok (.aload_n 0, 1) := by decide +kernel
theorem dX6_count_132 : decode cX6_count 132 = .ok (.getfield 10, 3) := by decide +kernel
theorem dX6_count_135 : decode cX6_count 135 = .ok (.invokevirtual 191, 3) := by decide +kernel
theorem dX6_count_138 : decode cX6_count 138 = .ok (.ireturn, 1) := by decide +kernel
theorem dX6_count_139 : decode cX6_count 139 = .ok (.aload_n 0, 1) := by decide +kernel
theorem dX6_count_140 : decode cX6_count 140 = .ok (.getfield 10, 3) := by decide +kernel
theorem dX6_count_143 : decode cX6_count 143 = .ok (.iconst 1, 1) := by decide +kernel
theorem dX6_count_144 : decode cX6_count 144 = .ok (.invokevirtual 194, 3) := by decide +kernel
theorem dX6_count_147 : decode cX6_count 147 = .ok (.ireturn, 1) := by decide +kernel
theorem dX6_count_148 : decode cX6_count 148 = .ok (.aload_n 0, 1) := by decide +kernel
theorem dX6_count_149 : decode cX6_count 149 = .ok (.getfield 10, 3) := by decide +kernel
theorem dX6_count_152 : decode cX6_count 152 = .ok (.iconst 2, 1) := by decide +kernel
theorem dX6_count_153 : decode cX6_count 153 = .ok (.invokevirtual 194, 3) := by decide +kernel
theorem dX6_count_156 : decode cX6_count 156 = .ok (.ireturn, 1) := by decide +kernel
theorem dX6_count_157 : decode cX6_count 157 = .ok (.aload_n 0, 1) := by decide +kernel
theorem dX6_count_158 : decode cX6_count 158 = .ok (.getfield 10, 3) := by decide +kernel
theorem dX6_count_161 : decode cX6_count 161 = .ok (.iconst 3, 1) := by decide +kernel
theorem dX6_count_162 : decode cX6_count 162 = .ok (.invokevirtual 194, 3) := by decide +kernel
theorem dX6_count_165 : decode cX6_count 165 = .ok (.ireturn, 1) := by decide +kernel
theorem dX6_count_166 : decode cX6_count 166 = .ok (.aload_n 0, 1) := by decide +kernel
theorem dX6_count_167 : decode cX6_count 167 = .ok (.getfield 10, 3) := by decide +kernel
theorem dX6_count_170 : decode cX6_count 170 = .ok (.invokevirtual 197, 3) := by decide +kernel
theorem dX6_count_173 : decode cX6_count 173 = .ok (.ireturn, 1) := by decide +kernel
theorem dX6_count_174 : decode cX6_count 174 = .ok (.aload_n 0, 1) := by decide +kernel
theorem dX6_count_175 : decode cX6_count 175 = .ok (.getfield 10, 3) := by decide +kernel
theorem dX6_count_178 : decode cX6_count 178 = .ok (.invokevirtual 199, 3) := by decide +kernel
theorem dX6_count_181 : decode cX6_count 181 = .ok (.ireturn, 1) := by decide +kernel
theorem dX6_count_182 : decode cX6_count 182 = .ok (.aload_n 0, 1) := by decide +kernel
theorem dX6_count_183 : decode cX6_count 183 = .ok (.getfield 10, 3) := by decide +kernel
theorem dX6_count_186 : decode cX6_count 186 = .ok (.getfield 127, 3) := by decide +kernel
theorem dX6_count_189 : decode cX6_count 189 = .ok (.ireturn, 1) := by decide +kernel
theorem dX6_count_190 : decode cX6_count 190 = .ok (.aload_n 0, 1) := by decide +kernel
theorem dX6_count_191 : decode cX6_count 191 = .ok (.getfield 10, 3) := by decide +kernel
theorem dX6_count_194 : decode cX6_count 194 = .ok (.invokevirtual 201, 3) := by decide +kernel
theorem dX6_count_197 : decode cX6_count 197 = .ok (.ireturn, 1) := by decide +kernel
theorem dX6_count_198 : decode cX6_count 198 = .ok (.aload_n 0, 1) := by decide +kernel
theorem dX6_count_199 : decode cX6_count 199 = .ok (.getfield 10, 3) := by decide +kernel
theorem dX6_count_202 : decode cX6_count 202 = .ok (.invokevirtual 204, 3) := by decide +kernel
theorem dX6_count_205 : decode cX6_count 205 = .ok (.ireturn, 1) := by decide +kernel
theorem dX6_count_206 : decode cX6_count 206 = .ok (.aload_n 0, 1) := by decide +kernel
theorem dX6_count_207 : decode cX6_count 207 = .ok (.getfield 32, 3) := by decide +kernel
theorem dX6_count_210 : decode cX6_count 210 = .ok (.getfield 140, 3) := by decide +kernel
theorem dX6_count_213 : decode cX6_count 213 = .ok (.ireturn, 1) := by decide +kernel
theorem dX6_count_214 : decode cX6_count 214 = .ok (.aload_n 0, 1) := by decide +kernel
theorem dX6_count_215 : decode cX6_count 215 = .ok (.getfield 25, 3) := by decide +kernel
theorem dX6_count_218 : decode cX6_count 218 = .ok (.getfield 207, 3) := by decide +kernel
theorem dX6_count_221 : decode cX6_count 221 = .ok (.ireturn, 1) := by decide +kernel
theorem dX6_count_222 : decode cX6_count 222 = .ok (.iconst (-1), 1) := by decide +kernel
theorem dX6_count_223 : decode cX6_count 223 = .ok (.ireturn, 1) := by decide +kernel
set_option maxRecDepth 20000 in
theorem ggX6_right_X2_forces : GoodIn wsX6_right wsX2_forces := goodIn_r _ [8, 9, 10, 11, 12, 13, 14, 15, 16, 17, 18, 19, 20, 21, 22, 23, 24, 25, 26, 27, 28, 29, 30, 31, 32, 117, 118, 119] (by decide +kernel) (by decide +kernel)
set_option maxRecDepth 20000 in
theorem gX6_right_X2_forces : GoodIn wsX6_right (wsV RX6 199 RX2 yX2_forces wsX2_forces) := goodIn_app (goodIn_of _ (by decide +kernel)) ggX6_right_X2_forces
set_option maxRecDepth 20000 in
theorem ggX6_right_X3_canChoose : GoodIn wsX6_right wsX3_canChoose := goodIn_r _ [37, 38, 39, 40, 41, 42, 43, 36, 44, 45, 46, 47, 48, 49, 50, 51, 52, 53, 7, 54, 10, 55, 56, 57, 58, 9, 59, 19, 13, 20, 60, 61, 62, 63, 64, 65, 66, 67, 68, 22, 23, 69, 70, 71, 72, 73, 74, 75, 76, 77, 78, 79, 80, 81, 82, 83, 84, 85, 86, 87, 88, 89, 90, 91, 92, 93, 120, 121, 122, 123, 124, 125, 126, 117, 118, 119] (by decide +kernel) (by decide +kernel)
set_option maxRecDepth 20000 in
theorem gX6_right_X3_canChoose : GoodIn wsX6_right (wsV RX6 130 RX3 yX3_canChoose wsX3_canChoose) := goodIn_app (goodIn_of _ (by decide +kernel)) ggX6_right_X3_canChoose
set_option maxRecDepth 20000 in
theorem ggX6_right_X2_at : GoodIn wsX6_right wsX2_at := goodIn_r _ [54, 10, 55, 56, 57, 7, 58, 9, 117, 118, 119] (by decide +kernel) (by decide +kernel)
set_option maxRecDepth 20000 in
theorem gX6_right_X2_at : GoodIn wsX6_right (wsV RX6 89 RX2 yX2_at wsX2_at) := goodIn_app (goodIn_of _ (by decide +kernel)) ggX6_right_X2_at
set_option maxRecDepth 20000 in
theorem ggX6_right_X3_handAt : GoodIn wsX6_right wsX3_handAt := goodIn_r _ [98, 38, 40, 120, 121, 122, 123, 124, 125, 126] (by decide +kernel) (by decide +kernel)
set_option maxRecDepth 20000 in
theorem gX6_right_X3_handAt : GoodIn wsX6_right (wsV RX6 134 RX3 yX3_handAt wsX3_handAt) := goodIn_app (goodIn_of _ (by decide +kernel)) ggX6_right_X3_handAt
set_option maxRecDepth 20000 in
theorem ggX6_right_X5_forcesOfRight : GoodIn wsX6_right wsX5_forcesOfRight := goodIn_r _ [101, 15, 16, 13, 17, 18, 19, 20, 21, 22, 23, 24, 25, 26, 102, 103, 104, 105, 106, 107, 27, 28, 29, 30, 31, 32] (by decide +kernel) (by decide +kernel)
set_option maxRecDepth 20000 in
theorem gX6_right_X5_forcesOfRight : GoodIn wsX6_right (va_wsS RX6 210 yX5_forcesOfRight wsX5_forcesOfRight) := goodIn_app (goodIn_of _ (by decide +kernel)) ggX6_right_X5_forcesOfRight
theorem dX6_right_0 : decode cX6_right 0 = .ok (.aload_n 0, 1) := by decide +kernel
theorem dX6_right_1 : decode cX6_right 1 = .ok (.getfield 10, 3) := by decide +kernel
theorem dX6_right_4 : decode cX6_right 4 = .ok (.invokevirtual 199, 3) := by decide +kernel
theorem dX6_right_7 : decode cX6_right 7 = .ok (.istore_n 2, 1) := by decide +kernel
theorem dX6_right_8 : decode cX6_right 8 = .ok (.iload_n 2, 1) := by decide +kernel
theorem dX6_right_9 : decode cX6_right 9 = .ok (.ifCond .eq 18, 3) := by decide +kernel
theorem dX6_right_12 : decode cX6_right 12 = .ok (.aload_n 0, 1) := by decide +kernel
theorem dX6_right_13 : decode cX6_right 13 = .ok (.getfield 46, 3) := by decide +kernel
theorem dX6_right_16 : decode cX6_right 16 = .ok (.aload_n 0, 1) := by decide +kernel
theorem dX6_right_17 : decode cX6_right 17 = .ok (.getfield 10, 3) := by decide +kernel
theorem dX6_right_20 : decode cX6_right 20 = .ok (.iload_n 1, 1) := by decide +kernel
theorem dX6_right_21 : decode cX6_right 21 = .ok (.invokevirtual 130, 3) := by decide +kernel
theorem dX6_right_24 : decode cX6_right 24 = .ok (.ifCond .ne 7, 3) := by decide +kernel
theorem dX6_right_27 : decode cX6_right 27 = .ok (.ldc2_w 208, 3) := by decide +kernel
theorem dX6_right_30 : decode cX6_right 30 = .ok (.dreturn, 1) := by decide +kernel
theorem dX6_right_31 : decode cX6_right 31 = .ok (.iconst 0, 1) := by decide +kernel
theorem dX6_right_32 : decode cX6_right 32 = .ok (.istore_n 3, 1) := by decide +kernel
theorem dX6_right_33 : decode cX6_right 33 = .ok (.iconst 0, 1) := by decide +kernel
theorem dX6_right_34 : decode cX6_right 34 = .ok (.istore 4, 2) := by decide +kernel
theorem dX6_right_36 : decode cX6_right 36 = .ok (.iload 4, 2) := by decide +kernel
theorem dX6_right_38 : decode cX6_right 38 = .ok (.aload_n 0, 1) := by decide +kernel
theorem dX6_right_39 : decode cX6_right 39 = .ok (.getfield 10, 3) := by decide +kernel
theorem dX6_right_42 : decode cX6_right 42 = .ok (.getfield 97, 3) := by decide +kernel
theorem dX6_right_45 : decode cX6_right 45 = .ok (.if_icmp .ge 33, 3) := by decide +kernel
theorem dX6_right_48 : decode cX6_right 48 = .ok (.iload_n 3, 1) := by decide +kernel
theorem dX6_right_49 : decode cX6_right 49 = .ok (.aload_n 0, 1) := by decide +kernel
theorem dX6_right_50 : decode cX6_right 50 = .ok (.getfield 10, 3) := by decide +kernel
theorem dX6_right_53 : decode cX6_right 53 = .ok (.iload 4, 2) := by decide +kernel
theorem dX6_right_55 : decode cX6_right 55 = .ok (.invokevirtual 89, 3) := by decide +kernel
theorem dX6_right_58 : decode cX6_right 58 = .ok (.aload_n 0, 1) := by decide +kernel
theorem dX6_right_59 : decode cX6_right 59 = .ok (.getfield 46, 3) := by decide +kernel
theorem dX6_right_62 : decode cX6_right 62 = .ok (.iload 4, 2) := by decide +kernel
theorem dX6_right_64 : decode cX6_right 64 = .ok (.invokevirtual 134, 3) := by decide +kernel
theorem dX6_right_67 : decode cX6_right 67 = .ok (.invokestatic 210, 3) := by decide +kernel
theorem dX6_right_70 : decode cX6_right 70 = .ok (.iadd, 1) := by decide +kernel
theorem dX6_right_71 : decode cX6_right 71 = .ok (.istore_n 3, 1) := by decide +kernel
theorem dX6_right_72 : decode cX6_right 72 = .ok (.iinc 4 1, 3) := by decide +kernel
theorem dX6_right_75 : decode cX6_right 75 = .ok (.goto (-39), 3) := by decide +kernel
theorem dX6_right_78 : decode cX6_right 78 = .ok (.iload_n 3, 1) := by decide +kernel
theorem dX6_right_79 : decode cX6_right 79 = .ok (.i2d, 1) := by decide +kernel
theorem dX6_right_80 : decode cX6_right 80 = .ok (.iload_n 2, 1) := by decide +kernel
theorem dX6_right_81 : decode cX6_right 81 = .ok (.i2d, 1) := by decide +kernel
theorem dX6_right_82 : decode cX6_right 82 = .ok (.ddiv, 1) := by decide +kernel
theorem dX6_right_83 : decode cX6_right 83 = .ok (.dreturn, 1) := by decide +kernel
set_option maxRecDepth 20000 in
theorem ggX6_patterns_X1_patternFault : GoodIn wsX6_patterns wsX1_patternFault := goodIn_r _ [8, 9, 10, 11, 12, 13, 14, 112, 113] (by decide +kernel) (by decide +kernel)
set_option maxRecDepth 20000 in
theorem gX6_patterns_X1_patternFault : GoodIn wsX6_patterns (wsV RX6 145 RX1 yX1_patternFault wsX1_patternFault) := goodIn_app (goodIn_of _ (by decide +kernel)) ggX6_patterns_X1_patternFault
set_option maxRecDepth 20000 in
theorem ggX6_patterns_X3_canChoose : GoodIn wsX6_patterns wsX3_canChoose := goodIn_r _ [19, 20, 21, 22, 23, 24, 25, 18, 26, 27, 28, 29, 30, 31, 32, 33, 34, 35, 36, 37, 38, 39, 40, 41, 42, 43, 44, 45, 46, 47, 48, 49, 50, 51, 52, 53, 54, 55, 56, 57, 58, 59, 60, 61, 62, 63, 64, 65, 66, 67, 68, 69, 70, 71, 72, 73, 74, 75, 76, 77, 78, 79, 80, 81, 82, 83, 117, 118, 119, 120, 121, 122, 123, 114, 115, 116] (by decide +kernel) (by decide +kernel)
set_option maxRecDepth 20000 in
theorem gX6_patterns_X3_canChoose : GoodIn wsX6_patterns (wsV RX6 130 RX3 yX3_canChoose wsX3_canChoose) := goodIn_app (goodIn_of _ (by decide +kernel)) ggX6_patterns_X3_canChoose
set_option maxRecDepth 20000 in
theorem ggX6_patterns_X6_isPatternAt : GoodIn wsX6_patterns wsX6_isPatternAt := goodIn_r _ [88, 1, 89, 90, 91, 7, 92, 9, 10, 93, 94, 95, 87, 96, 3, 2, 97, 34, 35, 36, 37, 38, 39, 40, 41, 42, 43, 98, 45, 46, 47, 99, 100, 101, 18, 102, 20, 22, 103, 104, 105, 106, 107, 108, 109, 110, 111, 112, 113, 114, 115, 116, 117, 118, 119, 120, 121, 122, 123] (by decide +kernel) (by decide +kernel)
set_option maxRecDepth 20000 in
theorem gX6_patterns_X6_isPatternAt : GoodIn wsX6_patterns (wsV RX6 213 RX6 yX6_isPatternAt wsX6_isPatternAt) := goodIn_app (goodIn_of _ (by decide +kernel)) ggX6_patterns_X6_isPatternAt
theorem dX6_patterns_0 : decode cX6_patterns 0 = .ok (.aload_n 0, 1) := by decide +kernel
theorem dX6_patterns_1 : decode cX6_patterns 1 = .ok (.getfield 32, 3) := by decide +kernel
theorem dX6_patterns_4 : decode cX6_patterns 4 = .ok (.invokevirtual 145, 3) := by decide +kernel
theorem dX6_patterns_7 : decode cX6_patterns 7 = .ok (.bipush (-4), 2) := by decide +kernel
theorem dX6_patterns_9 : decode cX6_patterns 9 = .ok (.if_icmp .ne 18, 3) := by decide +kernel
theorem dX6_patterns_12 : decode cX6_patterns 12 = .ok (.aload_n 0, 1) := by decide +kernel
theorem dX6_patterns_13 : decode cX6_patterns 13 = .ok (.getfield 46, 3) := by decide +kernel
theorem dX6_patterns_16 : decode cX6_patterns 16 = .ok (.aload_n 0, 1) := by decide +kernel
theorem dX6_patterns_17 : decode cX6_patterns 17 = .ok (.getfield 10, 3) := by decide +kernel
theorem dX6_patterns_20 : decode cX6_patterns 20 = .ok (.iconst 1, 1) := by decide +kernel
theorem dX6_patterns_21 : decode cX6_patterns 21 = .ok (.invokevirtual 130, 3) := by decide +kernel
theorem dX6_patterns_24 : decode cX6_patterns 24 = .ok (.ifCond .ne 6, 3) := by decide +kernel
theorem dX6_patterns_27 : decode cX6_patterns 27 = .ok (.bipush (-2), 2) := by decide +kernel
theorem dX6_patterns_29 : decode cX6_patterns 29 = .ok (.ireturn, 1) := by decide +kernel
theorem dX6_patterns_30 : decode cX6_patterns 30 = .ok (.iconst 0, 1) := by decide +kernel
theorem dX6_patterns_31 : decode cX6_patterns 31 = .ok (.istore_n 1, 1) := by decide +kernel
theorem dX6_patterns_32 : decode cX6_patterns 32 = .ok (.iconst 0, 1) := by decide +kernel
theorem dX6_patterns_33 : decode cX6_patterns 33 = .ok (.istore_n 2, 1) := by decide +kernel
theorem dX6_patterns_34 : decode cX6_patterns 34 = .ok (.iload_n 2, 1) := by decide +kernel
theorem dX6_patterns_35 : decode cX6_patterns 35 = .ok (.aload_n 0, 1) := by decide +kernel
theorem dX6_patterns_36 : decode cX6_patterns 36 = .ok (.getfield 32, 3) := by decide +kernel
theorem dX6_patterns_39 : decode cX6_patterns 39 = .ok (.getfield 140, 3) := by decide +kernel
theorem dX6_patterns_42 : decode cX6_patterns 42 = .ok (.iadd, 1) := by decide +kernel
theorem dX6_patterns_43 : decode cX6_patterns 43 = .ok (.aload_n 0, 1) := by decide +kernel
theorem dX6_patterns_44 : decode cX6_patterns 44 = .ok (.getfield 10, 3) := by decide +kernel
theorem dX6_patterns_47 : decode cX6_patterns 47 = .ok (.getfield 97, 3) := by decide +kernel
theorem dX6_patterns_50 : decode cX6_patterns 50 = .ok (.if_icmp .gt 20, 3) := by decide +kernel
theorem dX6_patterns_53 : decode cX6_patterns 53 = .ok (.aload_n 0, 1) := by decide +kernel
theorem dX6_patterns_54 : decode cX6_patterns 54 = .ok (.iload_n 2, 1) := by decide +kernel
theorem dX6_patterns_55 : decode cX6_patterns 55 = .ok (.invokevirtual 213, 3) := by decide +kernel
theorem dX6_patterns_58 : decode cX6_patterns 58 = .ok (.ifCond .eq 6, 3) := by decide +kernel
theorem dX6_patterns_61 : decode cX6_patterns 61 = .ok (.iinc 1 1, 3) := by decide +kernel
theorem dX6_patterns_64 : decode cX6_patterns 64 = .ok (.iinc 2 1, 3) := by decide +kernel
theorem dX6_patterns_67 : decode cX6_patterns 67 = .ok (.goto (-33), 3) := by decide +kernel
theorem dX6_patterns_70 : decode cX6_patterns 70 = .ok (.iload_n 1, 1) := by decide +kernel
theorem dX6_patterns_71 : decode cX6_patterns 71 = .ok (.ireturn, 1) := by decide +kernel
set_option maxRecDepth 20000 in
theorem ggX6_ifStroke_X2_hasStep : GoodIn wsX6_ifStroke wsX2_hasStep := goodIn_r _ [8, 9, 135, 136, 137] (by decide +kernel) (by decide +kernel)
set_option maxRecDepth 20000 in
theorem gX6_ifStroke_X2_hasStep : GoodIn wsX6_ifStroke (wsV RX6 78 RX2 yX2_hasStep wsX2_hasStep) := goodIn_app (goodIn_of _ (by decide +kernel)) ggX6_ifStroke_X2_hasStep
set_option maxRecDepth 20000 in
theorem ggX6_ifStroke_X6_isHand : GoodIn wsX6_ifStroke wsX6_isHand := goodIn_r _ [13] (by decide +kernel) (by decide +kernel)
set_option maxRecDepth 20000 in
theorem gX6_ifStroke_X6_isHand : GoodIn wsX6_ifStroke (va_wsS RX6 62 yX6_isHand wsX6_isHand) := goodIn_app (goodIn_of _ (by decide +kernel)) ggX6_ifStroke_X6_isHand
set_option maxRecDepth 20000 in
theorem ggX6_ifStroke_X6_isOrnament : GoodIn wsX6_ifStroke wsX6_isOrnament := goodIn_r _ [16] (by decide +kernel) (by decide +kernel)
set_option maxRecDepth 20000 in
theorem gX6_ifStroke_X6_isOrnament : GoodIn wsX6_ifStroke (va_wsS RX6 65 yX6_isOrnament wsX6_isOrnament) := goodIn_app (goodIn_of _ (by decide +kernel)) ggX6_ifStroke_X6_isOrnament
set_option maxRecDepth 20000 in
theorem ggX6_ifStroke_X2_copy : GoodIn wsX6_ifStroke wsX2_copy := goodIn_r _ [20, 21, 22, 23, 24, 7, 25, 9, 26, 135, 136, 137] (by decide +kernel) (by decide +kernel)
set_option maxRecDepth 20000 in
theorem gX6_ifStroke_X2_copy : GoodIn wsX6_ifStroke (wsV RX6 118 RX2 yX2_copy wsX2_copy) := goodIn_app (goodIn_of _ (by decide +kernel)) ggX6_ifStroke_X2_copy
set_option maxRecDepth 20000 in
theorem ggX6_ifStroke_X2_at : GoodIn wsX6_ifStroke wsX2_at := goodIn_r _ [30, 26, 31, 5, 6, 7, 8, 9, 135, 136, 137] (by decide +kernel) (by decide +kernel)
set_option maxRecDepth 20000 in
theorem gX6_ifStroke_X2_at : GoodIn wsX6_ifStroke (wsV RX6 89 RX2 yX2_at wsX2_at) := goodIn_app (goodIn_of _ (by decide +kernel)) ggX6_ifStroke_X2_at
set_option maxRecDepth 20000 in
theorem ggX6_ifStroke_X5_isAccented : GoodIn wsX6_ifStroke wsX5_isAccented := goodIn_r _ [35] (by decide +kernel) (by decide +kernel)
set_option maxRecDepth 20000 in
theorem gX6_ifStroke_X5_isAccented : GoodIn wsX6_ifStroke (va_wsS RX6 158 yX5_isAccented wsX5_isAccented) := goodIn_app (goodIn_of _ (by decide +kernel)) ggX6_ifStroke_X5_isAccented
set_option maxRecDepth 20000 in
theorem ggX6_ifStroke_X5_of : GoodIn wsX6_ifStroke wsX5_of := goodIn_r _ [38] (by decide +kernel) (by decide +kernel)
set_option maxRecDepth 20000 in
theorem gX6_ifStroke_X5_of : GoodIn wsX6_ifStroke (va_wsS RX6 68 yX5_of wsX5_of) := goodIn_app (goodIn_of _ (by decide +kernel)) ggX6_ifStroke_X5_of
set_option maxRecDepth 20000 in
theorem ggX6_ifStroke_X2_change : GoodIn wsX6_ifStroke wsX2_change := goodIn_r _ [42, 26, 31, 5, 6, 7, 8, 9, 135, 136, 137] (by decide +kernel) (by decide +kernel)
set_option maxRecDepth 20000 in
theorem gX6_ifStroke_X2_change : GoodIn wsX6_ifStroke (wsV RX6 115 RX2 yX2_change wsX2_change) := goodIn_app (goodIn_of _ (by decide +kernel)) ggX6_ifStroke_X2_change
set_option maxRecDepth 20000 in
theorem ggX6_ifStroke_X3_canChoose : GoodIn wsX6_ifStroke wsX3_canChoose := goodIn_r _ [47, 48, 49, 50, 51, 52, 53, 46, 54, 55, 56, 57, 58, 59, 60, 61, 28, 29, 7, 30, 26, 31, 5, 6, 8, 9, 62, 63, 34, 64, 65, 66, 67, 68, 69, 70, 71, 72, 73, 74, 75, 76, 77, 78, 79, 80, 81, 82, 83, 84, 85, 86, 87, 88, 89, 90, 91, 92, 93, 94, 95, 96, 97, 98, 99, 100, 138, 139, 140, 141, 142, 143, 144, 135, 136, 137] (by decide +kernel) (by decide +kernel)
set_option maxRecDepth 20000 in
theorem gX6_ifStroke_X3_canChoose : GoodIn wsX6_ifStroke (wsV RX6 130 RX3 yX3_canChoose wsX3_canChoose) := goodIn_app (goodIn_of _ (by decide +kernel)) ggX6_ifStroke_X3_canChoose
set_option maxRecDepth 20000 in
theorem ggX6_ifStroke_X3_repeatedHands : GoodIn wsX6_ifStroke wsX3_repeatedHands := goodIn_r _ [104, 85, 86, 87, 46, 88, 84, 138, 139, 140, 141, 142, 143, 144] (by decide +kernel) (by decide +kernel)
set_option maxRecDepth 20000 in
theorem gX6_ifStroke_X3_repeatedHands : GoodIn wsX6_ifStroke (wsV RX6 216 RX3 yX3_repeatedHands wsX3_repeatedHands) := goodIn_app (goodIn_of _ (by decide +kernel)) ggX6_ifStroke_X3_repeatedHands
set_option maxRecDepth 20000 in
theorem ggX6_ifStroke_X3_tell : GoodIn wsX6_ifStroke wsX3_tell := goodIn_r _ [108, 109, 110, 111, 57, 112, 113, 114, 115, 7, 116, 9, 26, 117, 63, 34, 64, 51, 52, 53, 46, 54, 55, 56, 58, 48, 49, 59, 60, 61, 28, 29, 30, 31, 5, 6, 8, 62, 65, 66, 67, 68, 69, 70, 71, 72, 73, 74, 75, 118, 119, 120, 121, 122, 123, 124, 125, 93, 94, 95, 96, 97, 98, 99, 100, 135, 136, 137, 138, 139, 140, 141, 142, 143, 144] (by decide +kernel) (by decide +kernel)
set_option maxRecDepth 20000 in
theorem gX6_ifStroke_X3_tell : GoodIn wsX6_ifStroke (wsV RX6 181 RX3 yX3_tell wsX3_tell) := goodIn_app (goodIn_of _ (by decide +kernel)) ggX6_ifStroke_X3_tell
theorem dX6_ifStroke_0 : decode cX6_ifStroke 0 = .ok (.aload_n 0, 1) := by decide +kernel
theorem dX6_ifStroke_1 : decode cX6_ifStroke 1 = .ok (.getfield 10, 3) := by decide +kernel
theorem dX6_ifStroke_4 : decode cX6_ifStroke 4 = .ok (.iload_n 1, 1) := by decide +kernel
theorem dX6_ifStroke_5 : decode cX6_ifStroke 5 = .ok (.invokevirtual 78, 3) := by decide +kernel
theorem dX6_ifStroke_8 : decode cX6_ifStroke 8 = .ok (.ifCond .eq 28, 3) := by decide +kernel
theorem dX6_ifStroke_11 : decode cX6_ifStroke 11 = .ok (.iload_n 2, 1) := by decide +kernel
theorem dX6_ifStroke_12 : decode cX6_ifStroke 12 = .ok (.invokestatic 62, 3) := by decide +kernel
theorem dX6_ifStroke_15 : decode cX6_ifStroke 15 = .ok (.ifCond .eq 21, 3) := by decide +kernel
theorem dX6_ifStroke_18 : decode cX6_ifStroke 18 = .ok (.iload_n 3, 1) := by decide +kernel
theorem dX6_ifStroke_19 : decode cX6_ifStroke 19 = .ok (.invokestatic 65, 3) := by decide +kernel
theorem dX6_ifStroke_22 : decode cX6_ifStroke 22 = .ok (.ifCond .eq 14, 3) := by decide +kernel
theorem dX6_ifStroke_25 : decode cX6_ifStroke 25 = .ok (.iload 4, 2) := by decide +kernel
theorem dX6_ifStroke_27 : decode cX6_ifStroke 27 = .ok (.ifCond .lt 9, 3) := by decide +kernel
theorem dX6_ifStroke_30 : decode cX6_ifStroke 30 = .ok (.iload 4, 2) := by decide +kernel
theorem dX6_ifStroke_32 : decode cX6_ifStroke 32 = .ok (.iconst 2, 1) := by decide +kernel
theorem dX6_ifStroke_33 : decode cX6_ifStroke 33 = .ok (.if_icmp .le 5, 3) := by decide +kernel
theorem dX6_ifStroke_36 : decode cX6_ifStroke 36 = .ok (.iconst (-1), 1) := by decide +kernel
theorem dX6_ifStroke_37 : decode cX6_ifStroke 37 = .ok (.ireturn, 1) := by decide +kernel
theorem dX6_ifStroke_38 : decode cX6_ifStroke 38 = .ok (.aload_n 0, 1) := by decide +kernel
theorem dX6_ifStroke_39 : decode cX6_ifStroke 39 = .ok (.getfield 16, 3) := by decide +kernel
theorem dX6_ifStroke_42 : decode cX6_ifStroke 42 = .ok (.aload_n 0, 1) := by decide +kernel
theorem dX6_ifStroke_43 : decode cX6_ifStroke 43 = .ok (.getfield 10, 3) := by decide +kernel
theorem dX6_ifStroke_46 : decode cX6_ifStroke 46 = .ok (.invokevirtual 118, 3) := by decide +kernel
theorem dX6_ifStroke_49 : decode cX6_ifStroke 49 = .ok (.aload_n 0, 1) := by decide +kernel
theorem dX6_ifStroke_50 : decode cX6_ifStroke 50 = .ok (.getfield 16, 3) := by decide +kernel
theorem dX6_ifStroke_53 : decode cX6_ifStroke 53 = .ok (.iload_n 1, 1) := by decide +kernel
theorem dX6_ifStroke_54 : decode cX6_ifStroke 54 = .ok (.iload_n 2, 1) := by decide +kernel
theorem dX6_ifStroke_55 : decode cX6_ifStroke 55 = .ok (.aload_n 0, 1) := by decide +kernel
theorem dX6_ifStroke_56 : decode cX6_ifStroke 56 = .ok (.getfield 10, 3) := by decide +kernel
theorem dX6_ifStroke_59 : decode cX6_ifStroke 59 = .ok (.iload_n 1, 1) := by decide +kernel
theorem dX6_ifStroke_60 : decode cX6_ifStroke 60 = .ok (.invokevirtual 89, 3) := by decide +kernel
theorem dX6_ifStroke_63 : decode cX6_ifStroke 63 = .ok (.invokestatic 158, 3) := by decide +kernel
theorem dX6_ifStroke_66 : decode cX6_ifStroke 66 = .ok (.iload_n 3, 1) := by decide +kernel
theorem dX6_ifStroke_67 : decode cX6_ifStroke 67 = .ok (.invokestatic 68, 3) := by decide +kernel
theorem dX6_ifStroke_70 : decode cX6_ifStroke 70 = .ok (.invokevirtual 115, 3) := by decide +kernel
theorem dX6_ifStroke_73 : decode cX6_ifStroke 73 = .ok (.iload 4, 2) := by decide +kernel
theorem dX6_ifStroke_75 : decode cX6_ifStroke 75 = .ok (.iconst 2, 1) := by decide +kernel
theorem dX6_ifStroke_76 : decode cX6_ifStroke 76 = .ok (.if_icmp .ne 31, 3) := by decide +kernel
theorem dX6_ifStroke_79 : decode cX6_ifStroke 79 = .ok (.aload_n 0, 1) := by decide +kernel
theorem dX6_ifStroke_80 : decode cX6_ifStroke 80 = .ok (.getfield 46, 3) := by decide +kernel
theorem dX6_ifStroke_83 : decode cX6_ifStroke 83 = .ok (.aload_n 0, 1) := by decide +kernel
theorem dX6_ifStroke_84 : decode cX6_ifStroke 84 = .ok (.getfield 16, 3) := by decide +kernel
theorem dX6_ifStroke_87 : decode cX6_ifStroke 87 = .ok (.iconst 1, 1) := by decide +kernel
theorem dX6_ifStroke_88 : decode cX6_ifStroke 88 = .ok (.invokevirtual 130, 3) := by decide +kernel
theorem dX6_ifStroke_91 : decode cX6_ifStroke 91 = .ok (.ifCond .eq 13, 3) := by decide +kernel
theorem dX6_ifStroke_94 : decode cX6_ifStroke 94 = .ok (.aload_n 0, 1) := by decide +kernel
theorem dX6_ifStroke_95 : decode cX6_ifStroke 95 = .ok (.getfield 46, 3) := by decide +kernel
theorem dX6_ifStroke_98 : decode cX6_ifStroke 98 = .ok (.invokevirtual 216, 3) := by decide +kernel
theorem dX6_ifStroke_101 : decode cX6_ifStroke 101 = .ok (.goto 5, 3) := by decide +kernel
theorem dX6_ifStroke_104 : decode cX6_ifStroke 104 = .ok (.bipush (-4), 2) := by decide +kernel
theorem dX6_ifStroke_106 : decode cX6_ifStroke 106 = .ok (.ireturn, 1) := by decide +kernel
theorem dX6_ifStroke_107 : decode cX6_ifStroke 107 = .ok (.aload_n 0, 1) := by decide +kernel
theorem dX6_ifStroke_108 : decode cX6_ifStroke 108 = .ok (.getfield 46, 3) := by decide +kernel
theorem dX6_ifStroke_111 : decode cX6_ifStroke 111 = .ok (.aload_n 0, 1) := by decide +kernel
theorem dX6_ifStroke_112 : decode cX6_ifStroke 112 = .ok (.getfield 16, 3) := by decide +kernel
theorem dX6_ifStroke_115 : decode cX6_ifStroke 115 = .ok (.iload 4, 2) := by decide +kernel
theorem dX6_ifStroke_117 : decode cX6_ifStroke 117 = .ok (.iconst 1, 1) := by decide +kernel
theorem dX6_ifStroke_118 : decode cX6_ifStroke 118 = .ok (.if_icmp .ne 7, 3) := by decide +kernel
theorem dX6_ifStroke_121 : decode cX6_ifStroke 121 = .ok (.iconst 1, 1) := by decide +kernel
theorem dX6_ifStroke_122 : decode cX6_ifStroke 122 = .ok (.goto 4, 3) := by decide +kernel
theorem dX6_ifStroke_125 : decode cX6_ifStroke 125 = .ok (.iconst 0, 1) := by decide +kernel
theorem dX6_ifStroke_126 : decode cX6_ifStroke 126 = .ok (.invokevirtual 181, 3) := by decide +kernel
theorem dX6_ifStroke_129 : decode cX6_ifStroke 129 = .ok (.ireturn, 1) := by decide +kernel
set_option maxRecDepth 20000 in
theorem ggX6_quickest_X2_copy : GoodIn wsX6_quickest wsX2_copy := goodIn_r _ [8, 9, 10, 11, 12, 7, 13, 14, 15, 91, 92, 93] (by decide +kernel) (by decide +kernel)
set_option maxRecDepth 20000 in
theorem gX6_quickest_X2_copy : GoodIn wsX6_quickest (wsV RX6 118 RX2 yX2_copy wsX2_copy) := goodIn_app (goodIn_of _ (by decide +kernel)) ggX6_quickest_X2_copy
set_option maxRecDepth 20000 in
theorem ggX6_quickest_X3_canChoose : GoodIn wsX6_quickest wsX3_canChoose := goodIn_r _ [20, 21, 22, 23, 24, 25, 26, 19, 27, 28, 29, 30, 31, 32, 33, 34, 35, 36, 7, 37, 15, 38, 39, 40, 41, 14, 42, 43, 44, 45, 46, 47, 48, 49, 50, 51, 52, 53, 54, 55, 56, 57, 58, 59, 60, 61, 62, 63, 64, 65, 66, 67, 68, 69, 70, 71, 72, 73, 74, 75, 76, 77, 78, 79, 80, 81, 94, 95, 96, 97, 98, 99, 100, 91, 92, 93] (by decide +kernel) (by decide +kernel)
set_option maxRecDepth 20000 in
theorem gX6_quickest_X3_canChoose : GoodIn wsX6_quickest (wsV RX6 130 RX3 yX3_canChoose wsX3_canChoose) := goodIn_app (goodIn_of _ (by decide +kernel)) ggX6_quickest_X3_canChoose
theorem dX6_quickest_0 : decode cX6_quickest 0 = .ok (.aload_n 0, 1) := by decide +kernel
theorem dX6_quickest_1 : decode cX6_quickest 1 = .ok (.getfield 16, 3) := by decide +kernel
theorem dX6_quickest_4 : decode cX6_quickest 4 = .ok (.aload_n 0, 1) := by decide +kernel
theorem dX6_quickest_5 : decode cX6_quickest 5 = .ok (.getfield 10, 3) := by decide +kernel
theorem dX6_quickest_8 : decode cX6_quickest 8 = .ok (.invokevirtual 118, 3) := by decide +kernel
theorem dX6_quickest_11 : decode cX6_quickest 11 = .ok (.iconst 4, 1) := by decide +kernel
theorem dX6_quickest_12 : decode cX6_quickest 12 = .ok (.istore_n 1, 1) := by decide +kernel
theorem dX6_quickest_13 : decode cX6_quickest 13 = .ok (.iload_n 1, 1) := by decide +kernel
theorem dX6_quickest_14 : decode cX6_quickest 14 = .ok (.iconst 1, 1) := by decide +kernel
theorem dX6_quickest_15 : decode cX6_quickest 15 = .ok (.if_icmp .lt 34, 3) := by decide +kernel
theorem dX6_quickest_18 : decode cX6_quickest 18 = .ok (.aload_n 0, 1) := by decide +kernel
theorem dX6_quickest_19 : decode cX6_quickest 19 = .ok (.getfield 16, 3) := by decide +kernel
theorem dX6_quickest_22 : decode cX6_quickest 22 = .ok (.iload_n 1, 1) := by decide +kernel
theorem dX6_quickest_23 : decode cX6_quickest 23 = .ok (.putfield 127, 3) := by decide +kernel
theorem dX6_quickest_26 : decode cX6_quickest 26 = .ok (.aload_n 0, 1) := by decide +kernel
theorem dX6_quickest_27 : decode cX6_quickest 27 = .ok (.getfield 46, 3) := by decide +kernel
theorem dX6_quickest_30 : decode cX6_quickest 30 = .ok (.aload_n 0, 1) := by decide +kernel
theorem dX6_quickest_31 : decode cX6_quickest 31 = .ok (.getfield 16, 3) := by decide +kernel
theorem dX6_quickest_34 : decode cX6_quickest 34 = .ok (.iconst 0, 1) := by decide +kernel
theorem dX6_quickest_35 : decode cX6_quickest 35 = .ok (.invokevirtual 130, 3) := by decide +kernel
theorem dX6_quickest_38 : decode cX6_quickest 38 = .ok (.ifCond .eq 5, 3) := by decide +kernel
theorem dX6_quickest_41 : decode cX6_quickest 41 = .ok (.iload_n 1, 1) := by decide +kernel
theorem dX6_quickest_42 : decode cX6_quickest 42 = .ok (.ireturn, 1) := by decide +kernel
theorem dX6_quickest_43 : decode cX6_quickest 43 = .ok (.iinc 1 (-1), 3) := by decide +kernel
theorem dX6_quickest_46 : decode cX6_quickest 46 = .ok (.goto (-33), 3) := by decide +kernel
theorem dX6_quickest_49 : decode cX6_quickest 49 = .ok (.bipush (-4), 2) := by decide +kernel
theorem dX6_quickest_51 : decode cX6_quickest 51 = .ok (.ireturn, 1) := by decide +kernel
set_option maxRecDepth 20000 in
theorem ggX6_undo_X0_takeBack : GoodIn wsX6_undo wsX0_takeBack := goodIn_r _ [7, 8, 9, 10, 11, 12, 13, 14, 15, 16, 17, 18, 19, 20, 21, 31, 32, 33, 34, 35] (by decide +kernel) (by decide +kernel)
set_option maxRecDepth 20000 in
theorem gX6_undo_X0_takeBack : GoodIn wsX6_undo (wsV RX6 219 RX0 yX0_takeBack wsX0_takeBack) := goodIn_app (goodIn_of _ (by decide +kernel)) ggX6_undo_X0_takeBack
theorem dX6_undo_0 : decode cX6_undo 0 = .ok (.aload_n 0, 1) := by decide +kernel
theorem dX6_undo_1 : decode cX6_undo 1 = .ok (.getfield 25, 3) := by decide +kernel
theorem dX6_undo_4 : decode cX6_undo 4 = .ok (.aload_n 0, 1) := by decide +kernel
theorem dX6_undo_5 : decode cX6_undo 5 = .ok (.getfield 10, 3) := by decide +kernel
theorem dX6_undo_8 : decode cX6_undo 8 = .ok (.invokevirtual 219, 3) := by decide +kernel
theorem dX6_undo_11 : decode cX6_undo 11 = .ok (.ifCond .ne 6, 3) := by decide +kernel
theorem dX6_undo_14 : decode cX6_undo 14 = .ok (.bipush (-2), 2) := by decide +kernel
theorem dX6_undo_16 : decode cX6_undo 16 = .ok (.ireturn, 1) := by decide +kernel
theorem dX6_undo_17 : decode cX6_undo 17 = .ok (.aload_n 0, 1) := by decide +kernel
theorem dX6_undo_18 : decode cX6_undo 18 = .ok (.getfield 25, 3) := by decide +kernel
theorem dX6_undo_21 : decode cX6_undo 21 = .ok (.getfield 207, 3) := by decide +kernel
theorem dX6_undo_24 : decode cX6_undo 24 = .ok (.ireturn, 1) := by decide +kernel
set_option maxRecDepth 20000 in
theorem ggX6_save_X2_copy : GoodIn wsX6_save wsX2_copy := goodIn_r _ [8, 9, 10, 11, 12, 7, 13, 14, 15, 25, 26, 27] (by decide +kernel) (by decide +kernel)
set_option maxRecDepth 20000 in
theorem gX6_save_X2_copy : GoodIn wsX6_save (wsV RX6 118 RX2 yX2_copy wsX2_copy) := goodIn_app (goodIn_of _ (by decide +kernel)) ggX6_save_X2_copy
theorem dX6_save_0 : decode cX6_save 0 = .ok (.aload_n 0, 1) := by decide +kernel
theorem dX6_save_1 : decode cX6_save 1 = .ok (.getfield 19, 3) := by decide +kernel
theorem dX6_save_4 : decode cX6_save 4 = .ok (.aload_n 0, 1) := by decide +kernel
theorem dX6_save_5 : decode cX6_save 5 = .ok (.getfield 10, 3) := by decide +kernel
theorem dX6_save_8 : decode cX6_save 8 = .ok (.invokevirtual 118, 3) := by decide +kernel
theorem dX6_save_11 : decode cX6_save 11 = .ok (.aload_n 0, 1) := by decide +kernel
theorem dX6_save_12 : decode cX6_save 12 = .ok (.iconst 1, 1) := by decide +kernel
theorem dX6_save_13 : decode cX6_save 13 = .ok (.putfield 50, 3) := by decide +kernel
theorem dX6_save_16 : decode cX6_save 16 = .ok (.aload_n 0, 1) := by decide +kernel
theorem dX6_save_17 : decode cX6_save 17 = .ok (.getfield 10, 3) := by decide +kernel
theorem dX6_save_20 : decode cX6_save 20 = .ok (.getfield 97, 3) := by decide +kernel
theorem dX6_save_23 : decode cX6_save 23 = .ok (.ireturn, 1) := by decide +kernel
set_option maxRecDepth 20000 in
theorem ggX6_restore_X0_remember : GoodIn wsX6_restore wsX0_remember := goodIn_r _ [9, 10, 11, 12, 13, 14, 8, 15, 16, 17, 18, 19, 20, 21, 22, 23, 24, 25, 26, 27, 41, 42, 38, 39, 40] (by decide +kernel) (by decide +kernel)
set_option maxRecDepth 20000 in
theorem gX6_restore_X0_remember : GoodIn wsX6_restore (wsV RX6 85 RX0 yX0_remember wsX0_remember) := goodIn_app (goodIn_of _ (by decide +kernel)) ggX6_restore_X0_remember
set_option maxRecDepth 20000 in
theorem ggX6_restore_X2_copy : GoodIn wsX6_restore wsX2_copy := goodIn_r _ [20, 21, 22, 23, 24, 19, 25, 26, 27, 38, 39, 40] (by decide +kernel) (by decide +kernel)
set_option maxRecDepth 20000 in
theorem gX6_restore_X2_copy : GoodIn wsX6_restore (wsV RX6 118 RX2 yX2_copy wsX2_copy) := goodIn_app (goodIn_of _ (by decide +kernel)) ggX6_restore_X2_copy
theorem dX6_restore_0 : decode cX6_restore 0 = .ok (.aload_n 0, 1) := by decide +kernel
theorem dX6_restore_1 : decode cX6_restore 1 = .ok (.getfield 50, 3) := by decide +kernel
theorem dX6_restore_4 : decode cX6_restore 4 = .ok (.ifCond .ne 6, 3) := by decide +kernel
theorem dX6_restore_7 : decode cX6_restore 7 = .ok (.bipush (-2), 2) := by decide +kernel
theorem dX6_restore_9 : decode cX6_restore 9 = .ok (.ireturn, 1) := by decide +kernel
theorem dX6_restore_10 : decode cX6_restore 10 = .ok (.aload_n 0, 1) := by decide +kernel
theorem dX6_restore_11 : decode cX6_restore 11 = .ok (.getfield 25, 3) := by decide +kernel
theorem dX6_restore_14 : decode cX6_restore 14 = .ok (.aload_n 0, 1) := by decide +kernel
theorem dX6_restore_15 : decode cX6_restore 15 = .ok (.getfield 10, 3) := by decide +kernel
theorem dX6_restore_18 : decode cX6_restore 18 = .ok (.invokevirtual 85, 3) := by decide +kernel
theorem dX6_restore_21 : decode cX6_restore 21 = .ok (.aload_n 0, 1) := by decide +kernel
theorem dX6_restore_22 : decode cX6_restore 22 = .ok (.getfield 10, 3) := by decide +kernel
theorem dX6_restore_25 : decode cX6_restore 25 = .ok (.aload_n 0, 1) := by decide +kernel
theorem dX6_restore_26 : decode cX6_restore 26 = .ok (.getfield 19, 3) := by decide +kernel
theorem dX6_restore_29 : decode cX6_restore 29 = .ok (.invokevirtual 118, 3) := by decide +kernel
theorem dX6_restore_32 : decode cX6_restore 32 = .ok (.aload_n 0, 1) := by decide +kernel
theorem dX6_restore_33 : decode cX6_restore 33 = .ok (.getfield 10, 3) := by decide +kernel
theorem dX6_restore_36 : decode cX6_restore 36 = .ok (.getfield 97, 3) := by decide +kernel
theorem dX6_restore_39 : decode cX6_restore 39 = .ok (.ireturn, 1) := by decide +kernel
theorem dX6_isHand_0 : decode cX6_isHand 0 = .ok (.iload_n 0, 1) := by decide +kernel
theorem dX6_isHand_1 : decode cX6_isHand 1 = .ok (.ifCond .lt 12, 3) := by decide +kernel
theorem dX6_isHand_4 : decode cX6_isHand 4 = .ok (.iload_n 0, 1) := by decide +kernel
theorem dX6_isHand_5 : decode cX6_isHand 5 = .ok (.iconst 2, 1) := by decide +kernel
theorem dX6_isHand_6 : decode cX6_isHand 6 = .ok (.if_icmp .gt 7, 3) := by decide +kernel
theorem dX6_isHand_9 : decode cX6_isHand 9 = .ok (.iconst 1, 1) := by decide +kernel
theorem dX6_isHand_10 : decode cX6_isHand 10 = .ok (.goto 4, 3) := by decide +kernel
theorem dX6_isHand_13 : decode cX6_isHand 13 = .ok (.iconst 0, 1) := by decide +kernel
theorem dX6_isHand_14 : decode cX6_isHand 14 = .ok (.ireturn, 1) := by decide +kernel
theorem dX6_isOrnament_0 : decode cX6_isOrnament 0 = .ok (.iload_n 0, 1) := by decide +kernel
theorem dX6_isOrnament_1 : decode cX6_isOrnament 1 = .ok (.ifCond .lt 12, 3) := by decide +kernel
theorem dX6_isOrnament_4 : decode cX6_isOrnament 4 = .ok (.iload_n 0, 1) := by decide +kernel
theorem dX6_isOrnament_5 : decode cX6_isOrnament 5 = .ok (.iconst 3, 1) := by decide +kernel
theorem dX6_isOrnament_6 : decode cX6_isOrnament 6 = .ok (.if_icmp .gt 7, 3) := by decide +kernel
theorem dX6_isOrnament_9 : decode cX6_isOrnament 9 = .ok (.iconst 1, 1) := by decide +kernel
theorem dX6_isOrnament_10 : decode cX6_isOrnament 10 = .ok (.goto 4, 3) := by decide +kernel
theorem dX6_isOrnament_13 : decode cX6_isOrnament 13 = .ok (.iconst 0, 1) := by decide +kernel
theorem dX6_isOrnament_14 : decode cX6_isOrnament 14 = .ok (.ireturn, 1) := by decide +kernel
theorem dX6_otherHand_0 : decode cX6_otherHand 0 = .ok (.iload_n 0, 1) := by decide +kernel
theorem dX6_otherHand_1 : decode cX6_otherHand 1 = .ok (.ifCond .ne 7, 3) := by decide +kernel
theorem dX6_otherHand_4 : decode cX6_otherHand 4 = .ok (.iconst 1, 1) := by decide +kernel
theorem dX6_otherHand_5 : decode cX6_otherHand 5 = .ok (.goto 4, 3) := by decide +kernel
theorem dX6_otherHand_8 : decode cX6_otherHand 8 = .ok (.iconst 0, 1) := by decide +kernel
theorem dX6_otherHand_9 : decode cX6_otherHand 9 = .ok (.ireturn, 1) := by decide +kernel
set_option maxRecDepth 20000 in
theorem ggX6_write_X0_remember : GoodIn wsX6_write wsX0_remember := goodIn_r _ [7, 8, 9, 10, 11, 12, 6, 13, 14, 15, 16, 17, 18, 19, 20, 21, 22, 23, 24, 25, 54, 55, 51, 52, 53] (by decide +kernel) (by decide +kernel)
set_option maxRecDepth 20000 in
theorem gX6_write_X0_remember : GoodIn wsX6_write (wsV RX6 85 RX0 yX0_remember wsX0_remember) := goodIn_app (goodIn_of _ (by decide +kernel)) ggX6_write_X0_remember
set_option maxRecDepth 20000 in
theorem ggX6_write_X2_add : GoodIn wsX6_write wsX2_add := goodIn_r _ [29, 25, 24, 30, 31, 32, 17, 33, 51, 52, 53] (by decide +kernel) (by decide +kernel)
set_option maxRecDepth 20000 in
theorem gX6_write_X2_add : GoodIn wsX6_write (wsV RX6 223 RX2 yX2_add wsX2_add) := goodIn_app (goodIn_of _ (by decide +kernel)) ggX6_write_X2_add
set_option maxRecDepth 20000 in
theorem ggX6_write_X2_change : GoodIn wsX6_write wsX2_change := goodIn_r _ [37, 25, 38, 39, 40, 17, 41, 24, 51, 52, 53] (by decide +kernel) (by decide +kernel)
set_option maxRecDepth 20000 in
theorem gX6_write_X2_change : GoodIn wsX6_write (wsV RX6 115 RX2 yX2_change wsX2_change) := goodIn_app (goodIn_of _ (by decide +kernel)) ggX6_write_X2_change
theorem dX6_write_0 : decode cX6_write 0 = .ok (.iload_n 1, 1) := by decide +kernel
theorem dX6_write_1 : decode cX6_write 1 = .ok (.bipush 32, 2) := by decide +kernel
theorem dX6_write_3 : decode cX6_write 3 = .ok (.if_icmp .ne 6, 3) := by decide +kernel
theorem dX6_write_6 : decode cX6_write 6 = .ok (.bipush (-3), 2) := by decide +kernel
theorem dX6_write_8 : decode cX6_write 8 = .ok (.ireturn, 1) := by decide +kernel
theorem dX6_write_9 : decode cX6_write 9 = .ok (.aload_n 0, 1) := by decide +kernel
theorem dX6_write_10 : decode cX6_write 10 = .ok (.getfield 25, 3) := by decide +kernel
theorem dX6_write_13 : decode cX6_write 13 = .ok (.aload_n 0, 1) := by decide +kernel
theorem dX6_write_14 : decode cX6_write 14 = .ok (.getfield 10, 3) := by decide +kernel
theorem dX6_write_17 : decode cX6_write 17 = .ok (.invokevirtual 85, 3) := by decide +kernel
theorem dX6_write_20 : decode cX6_write 20 = .ok (.iload_n 1, 1) := by decide +kernel
theorem dX6_write_21 : decode cX6_write 21 = .ok (.aload_n 0, 1) := by decide +kernel
theorem dX6_write_22 : decode cX6_write 22 = .ok (.getfield 10, 3) := by decide +kernel
theorem dX6_write_25 : decode cX6_write 25 = .ok (.getfield 97, 3) := by decide +kernel
theorem dX6_write_28 : decode cX6_write 28 = .ok (.if_icmp .ne 15, 3) := by decide +kernel
theorem dX6_write_31 : decode cX6_write 31 = .ok (.aload_n 0, 1) := by decide +kernel
theorem dX6_write_32 : decode cX6_write 32 = .ok (.getfield 10, 3) := by decide +kernel
theorem dX6_write_35 : decode cX6_write 35 = .ok (.iload_n 2, 1) := by decide +kernel
theorem dX6_write_36 : decode cX6_write 36 = .ok (.invokevirtual 223, 3) := by decide +kernel
theorem dX6_write_39 : decode cX6_write 39 = .ok (.pop, 1) := by decide +kernel
theorem dX6_write_40 : decode cX6_write 40 = .ok (.goto 12, 3) := by decide +kernel
theorem dX6_write_43 : decode cX6_write 43 = .ok (.aload_n 0, 1) := by decide +kernel
theorem dX6_write_44 : decode cX6_write 44 = .ok (.getfield 10, 3) := by decide +kernel
theorem dX6_write_47 : decode cX6_write 47 = .ok (.iload_n 1, 1) := by decide +kernel
theorem dX6_write_48 : decode cX6_write 48 = .ok (.iload_n 2, 1) := by decide +kernel
theorem dX6_write_49 : decode cX6_write 49 = .ok (.invokevirtual 115, 3) := by decide +kernel
theorem dX6_write_52 : decode cX6_write 52 = .ok (.aload_n 0, 1) := by decide +kernel
theorem dX6_write_53 : decode cX6_write 53 = .ok (.getfield 10, 3) := by decide +kernel
theorem dX6_write_56 : decode cX6_write 56 = .ok (.getfield 97, 3) := by decide +kernel
theorem dX6_write_59 : decode cX6_write 59 = .ok (.ireturn, 1) := by decide +kernel
set_option maxRecDepth 20000 in
theorem ggX6_playedHand_X2_at : GoodIn wsX6_playedHand wsX2_at := goodIn_r _ [7, 8, 9, 10, 11, 6, 12, 13, 87, 88, 89] (by decide +kernel) (by decide +kernel)
set_option maxRecDepth 20000 in
theorem gX6_playedHand_X2_at : GoodIn wsX6_playedHand (wsV RX6 89 RX2 yX2_at wsX2_at) := goodIn_app (goodIn_of _ (by decide +kernel)) ggX6_playedHand_X2_at
set_option maxRecDepth 20000 in
theorem ggX6_playedHand_X5_isStroke : GoodIn wsX6_playedHand wsX5_isStroke := goodIn_r _ [17] (by decide +kernel) (by decide +kernel)
set_option maxRecDepth 20000 in
theorem gX6_playedHand_X5_isStroke : GoodIn wsX6_playedHand (va_wsS RX6 103 yX5_isStroke wsX5_isStroke) := goodIn_app (goodIn_of _ (by decide +kernel)) ggX6_playedHand_X5_isStroke
set_option maxRecDepth 20000 in
theorem ggX6_playedHand_X3_canChoose : GoodIn wsX6_playedHand wsX3_canChoose := goodIn_r _ [22, 23, 24, 25, 26, 27, 28, 21, 29, 30, 31, 32, 33, 34, 35, 36, 4, 5, 6, 7, 8, 9, 10, 11, 12, 13, 37, 15, 16, 17, 38, 39, 40, 41, 42, 43, 44, 45, 46, 47, 48, 49, 50, 51, 52, 53, 54, 55, 56, 57, 58, 59, 60, 61, 62, 63, 64, 65, 66, 67, 68, 69, 70, 71, 72, 73, 90, 91, 92, 93, 94, 95, 96, 87, 88, 89] (by decide +kernel) (by decide +kernel)
set_option maxRecDepth 20000 in
theorem gX6_playedHand_X3_canChoose : GoodIn wsX6_playedHand (wsV RX6 130 RX3 yX3_canChoose wsX3_canChoose) := goodIn_app (goodIn_of _ (by decide +kernel)) ggX6_playedHand_X3_canChoose
set_option maxRecDepth 20000 in
theorem ggX6_playedHand_X3_handAt : GoodIn wsX6_playedHand wsX3_handAt := goodIn_r _ [77, 23, 25, 90, 91, 92, 93, 94, 95, 96] (by decide +kernel) (by decide +kernel)
set_option maxRecDepth 20000 in
theorem gX6_playedHand_X3_handAt : GoodIn wsX6_playedHand (wsV RX6 134 RX3 yX3_handAt wsX3_handAt) := goodIn_app (goodIn_of _ (by decide +kernel)) ggX6_playedHand_X3_handAt
theorem dX6_playedHand_0 : decode cX6_playedHand 0 = .ok (.aload_n 0, 1) := by decide +kernel
theorem dX6_playedHand_1 : decode cX6_playedHand 1 = .ok (.getfield 10, 3) := by decide +kernel
theorem dX6_playedHand_4 : decode cX6_playedHand 4 = .ok (.iload_n 1, 1) := by decide +kernel
theorem dX6_playedHand_5 : decode cX6_playedHand 5 = .ok (.invokevirtual 89, 3) := by decide +kernel
theorem dX6_playedHand_8 : decode cX6_playedHand 8 = .ok (.invokestatic 103, 3) := by decide +kernel
theorem dX6_playedHand_11 : decode cX6_playedHand 11 = .ok (.ifCond .eq 18, 3) := by decide +kernel
theorem dX6_playedHand_14 : decode cX6_playedHand 14 = .ok (.aload_n 0, 1) := by decide +kernel
theorem dX6_playedHand_15 : decode cX6_playedHand 15 = .ok (.getfield 46, 3) := by decide +kernel
theorem dX6_playedHand_18 : decode cX6_playedHand 18 = .ok (.aload_n 0, 1) := by decide +kernel
theorem dX6_playedHand_19 : decode cX6_playedHand 19 = .ok (.getfield 10, 3) := by decide +kernel
theorem dX6_playedHand_22 : decode cX6_playedHand 22 = .ok (.iload_n 2, 1) := by decide +kernel
theorem dX6_playedHand_23 : decode cX6_playedHand 23 = .ok (.invokevirtual 130, 3) := by decide +kernel
theorem dX6_playedHand_26 : decode cX6_playedHand 26 = .ok (.ifCond .ne 6, 3) := by decide +kernel
theorem dX6_playedHand_29 : decode cX6_playedHand 29 = .ok (.bipush (-4), 2) := by decide +kernel
theorem dX6_playedHand_31 : decode cX6_playedHand 31 = .ok (.ireturn, 1) := by decide +kernel
theorem dX6_playedHand_32 : decode cX6_playedHand 32 = .ok (.aload_n 0, 1) := by decide +kernel
theorem dX6_playedHand_33 : decode cX6_playedHand 33 = .ok (.getfield 46, 3) := by decide +kernel
theorem dX6_playedHand_36 : decode cX6_playedHand 36 = .ok (.iload_n 1, 1) := by decide +kernel
theorem dX6_playedHand_37 : decode cX6_playedHand 37 = .ok (.invokevirtual 134, 3) := by decide +kernel
theorem dX6_playedHand_40 : decode cX6_playedHand 40 = .ok (.ireturn, 1) := by decide +kernel
set_option maxRecDepth 20000 in
theorem ggX6_isPatternAt_X1_at : GoodIn wsX6_isPatternAt wsX1_at := goodIn_r _ [6, 7, 8, 47, 48] (by decide +kernel) (by decide +kernel)
set_option maxRecDepth 20000 in
theorem gX6_isPatternAt_X1_at : GoodIn wsX6_isPatternAt (wsV RX6 224 RX1 yX1_at wsX1_at) := goodIn_app (goodIn_of _ (by decide +kernel)) ggX6_isPatternAt_X1_at
set_option maxRecDepth 20000 in
theorem ggX6_isPatternAt_X6_isAsTold : GoodIn wsX6_isPatternAt wsX6_isAsTold := goodIn_r _ [13, 14, 15, 16, 17, 18, 19, 20, 21, 22, 23, 24, 25, 26, 27, 28, 29, 30, 31, 32, 33, 34, 35, 36, 37, 38, 39, 40, 41, 42, 43, 44, 45, 46, 49, 50, 51, 52, 53, 54, 55, 56, 57, 58] (by decide +kernel) (by decide +kernel)
set_option maxRecDepth 20000 in
theorem gX6_isPatternAt_X6_isAsTold : GoodIn wsX6_isPatternAt (wsV RX6 225 RX6 yX6_isAsTold wsX6_isAsTold) := goodIn_app (goodIn_of _ (by decide +kernel)) ggX6_isPatternAt_X6_isAsTold
theorem dX6_isPatternAt_0 : decode cX6_isPatternAt 0 = .ok (.iconst 0, 1) := by decide +kernel
theorem dX6_isPatternAt_1 : decode cX6_isPatternAt 1 = .ok (.istore_n 2, 1) := by decide +kernel
theorem dX6_isPatternAt_2 : decode cX6_isPatternAt 2 = .ok (.iload_n 2, 1) := by decide +kernel
theorem dX6_isPatternAt_3 : decode cX6_isPatternAt 3 = .ok (.aload_n 0, 1) := by decide +kernel
theorem dX6_isPatternAt_4 : decode cX6_isPatternAt 4 = .ok (.getfield 32, 3) := by decide +kernel
theorem dX6_isPatternAt_7 : decode cX6_isPatternAt 7 = .ok (.getfield 140, 3) := by decide +kernel
theorem dX6_isPatternAt_10 : decode cX6_isPatternAt 10 = .ok (.if_icmp .ge 29, 3) := by decide +kernel
theorem dX6_isPatternAt_13 : decode cX6_isPatternAt 13 = .ok (.aload_n 0, 1) := by decide +kernel
theorem dX6_isPatternAt_14 : decode cX6_isPatternAt 14 = .ok (.iload_n 1, 1) := by decide +kernel
theorem dX6_isPatternAt_15 : decode cX6_isPatternAt 15 = .ok (.iload_n 2, 1) := by decide +kernel
theorem dX6_isPatternAt_16 : decode cX6_isPatternAt 16 = .ok (.iadd, 1) := by decide +kernel
theorem dX6_isPatternAt_17 : decode cX6_isPatternAt 17 = .ok (.aload_n 0, 1) := by decide +kernel
theorem dX6_isPatternAt_18 : decode cX6_isPatternAt 18 = .ok (.getfield 32, 3) := by decide +kernel
theorem dX6_isPatternAt_21 : decode cX6_isPatternAt 21 = .ok (.iload_n 2, 1) := by decide +kernel
theorem dX6_isPatternAt_22 : decode cX6_isPatternAt 22 = .ok (.invokevirtual 224, 3) := by decide +kernel
theorem dX6_isPatternAt_25 : decode cX6_isPatternAt 25 = .ok (.invokevirtual 225, 3) := by decide +kernel
theorem dX6_isPatternAt_28 : decode cX6_isPatternAt 28 = .ok (.ifCond .ne 5, 3) := by decide +kernel
theorem dX6_isPatternAt_31 : decode cX6_isPatternAt 31 = .ok (.iconst 0, 1) := by decide +kernel
theorem dX6_isPatternAt_32 : decode cX6_isPatternAt 32 = .ok (.ireturn, 1) := by decide +kernel
theorem dX6_isPatternAt_33 : decode cX6_isPatternAt 33 = .ok (.iinc 2 1, 3) := by decide +kernel
theorem dX6_isPatternAt_36 : decode cX6_isPatternAt 36 = .ok (.goto (-34), 3) := by decide +kernel
theorem dX6_isPatternAt_39 : decode cX6_isPatternAt 39 = .ok (.iconst 1, 1) := by decide +kernel
theorem dX6_isPatternAt_40 : decode cX6_isPatternAt 40 = .ok (.ireturn, 1) := by decide +kernel
set_option maxRecDepth 20000 in
theorem ggX6_isAsTold_X2_at : GoodIn wsX6_isAsTold wsX2_at := goodIn_r _ [7, 8, 9, 10, 11, 6, 12, 13, 34, 35, 36] (by decide +kernel) (by decide +kernel)
set_option maxRecDepth 20000 in
theorem gX6_isAsTold_X2_at : GoodIn wsX6_isAsTold (wsV RX6 89 RX2 yX2_at wsX2_at) := goodIn_app (goodIn_of _ (by decide +kernel)) ggX6_isAsTold_X2_at
set_option maxRecDepth 20000 in
theorem ggX6_isAsTold_X5_isStroke : GoodIn wsX6_isAsTold wsX5_isStroke := goodIn_r _ [17] (by decide +kernel) (by decide +kernel)
set_option maxRecDepth 20000 in
theorem gX6_isAsTold_X5_isStroke : GoodIn wsX6_isAsTold (va_wsS RX6 103 yX5_isStroke wsX5_isStroke) := goodIn_app (goodIn_of _ (by decide +kernel)) ggX6_isAsTold_X5_isStroke
set_option maxRecDepth 20000 in
theorem ggX6_isAsTold_X3_handAt : GoodIn wsX6_isAsTold wsX3_handAt := goodIn_r _ [22, 23, 24, 37, 38, 39, 40, 41, 42, 43] (by decide +kernel) (by decide +kernel)
set_option maxRecDepth 20000 in
theorem gX6_isAsTold_X3_handAt : GoodIn wsX6_isAsTold (wsV RX6 134 RX3 yX3_handAt wsX3_handAt) := goodIn_app (goodIn_of _ (by decide +kernel)) ggX6_isAsTold_X3_handAt
theorem dX6_isAsTold_0 : decode cX6_isAsTold 0 = .ok (.aload_n 0, 1) := by decide +kernel
theorem dX6_isAsTold_1 : decode cX6_isAsTold 1 = .ok (.getfield 10, 3) := by decide +kernel
theorem dX6_isAsTold_4 : decode cX6_isAsTold 4 = .ok (.iload_n 1, 1) := by decide +kernel
theorem dX6_isAsTold_5 : decode cX6_isAsTold 5 = .ok (.invokevirtual 89, 3) := by decide +kernel
theorem dX6_isAsTold_8 : decode cX6_isAsTold 8 = .ok (.invokestatic 103, 3) := by decide +kernel
theorem dX6_isAsTold_11 : decode cX6_isAsTold 11 = .ok (.istore_n 3, 1) := by decide +kernel
theorem dX6_isAsTold_12 : decode cX6_isAsTold 12 = .ok (.iload_n 2, 1) := by decide +kernel
theorem dX6_isAsTold_13 : decode cX6_isAsTold 13 = .ok (.bipush 46, 2) := by decide +kernel
theorem dX6_isAsTold_15 : decode cX6_isAsTold 15 = .ok (.if_icmp .ne 13, 3) := by decide +kernel
theorem dX6_isAsTold_18 : decode cX6_isAsTold 18 = .ok (.iload_n 3, 1) := by decide +kernel
theorem dX6_isAsTold_19 : decode cX6_isAsTold 19 = .ok (.ifCond .ne 7, 3) := by decide +kernel
theorem dX6_isAsTold_22 : decode cX6_isAsTold 22 = .ok (.iconst 1, 1) := by decide +kernel
theorem dX6_isAsTold_23 : decode cX6_isAsTold 23 = .ok (.goto 4, 3) := by decide +kernel
theorem dX6_isAsTold_26 : decode cX6_isAsTold 26 = .ok (.iconst 0, 1) := by decide +kernel
theorem dX6_isAsTold_27 : decode cX6_isAsTold 27 = .ok (.ireturn, 1) := by decide +kernel
theorem dX6_isAsTold_28 : decode cX6_isAsTold 28 = .ok (.iload_n 2, 1) := by decide +kernel
theorem dX6_isAsTold_29 : decode cX6_isAsTold 29 = .ok (.bipush 120, 2) := by decide +kernel
theorem dX6_isAsTold_31 : decode cX6_isAsTold 31 = .ok (.if_icmp .ne 5, 3) := by decide +kernel
theorem dX6_isAsTold_34 : decode cX6_isAsTold 34 = .ok (.iload_n 3, 1) := by decide +kernel
theorem dX6_isAsTold_35 : decode cX6_isAsTold 35 = .ok (.ireturn, 1) := by decide +kernel
theorem dX6_isAsTold_36 : decode cX6_isAsTold 36 = .ok (.iload_n 3, 1) := by decide +kernel
theorem dX6_isAsTold_37 : decode cX6_isAsTold 37 = .ok (.ifCond .eq 29, 3) := by decide +kernel
theorem dX6_isAsTold_40 : decode cX6_isAsTold 40 = .ok (.aload_n 0, 1) := by decide +kernel
theorem dX6_isAsTold_41 : decode cX6_isAsTold 41 = .ok (.getfield 46, 3) := by decide +kernel
theorem dX6_isAsTold_44 : decode cX6_isAsTold 44 = .ok (.iload_n 1, 1) := by decide +kernel
theorem dX6_isAsTold_45 : decode cX6_isAsTold 45 = .ok (.invokevirtual 134, 3) := by decide +kernel
theorem dX6_isAsTold_48 : decode cX6_isAsTold 48 = .ok (.iload_n 2, 1) := by decide +kernel
theorem dX6_isAsTold_49 : decode cX6_isAsTold 49 = .ok (.bipush 82, 2) := by decide +kernel
theorem dX6_isAsTold_51 : decode cX6_isAsTold 51 = .ok (.if_icmp .ne 7, 3) := by decide +kernel
theorem dX6_isAsTold_54 : decode cX6_isAsTold 54 = .ok (.iconst 0, 1) := by decide +kernel
theorem dX6_isAsTold_55 : decode cX6_isAsTold 55 = .ok (.goto 4, 3) := by decide +kernel
theorem dX6_isAsTold_58 : decode cX6_isAsTold 58 = .ok (.iconst 1, 1) := by decide +kernel
theorem dX6_isAsTold_59 : decode cX6_isAsTold 59 = .ok (.if_icmp .ne 7, 3) := by decide +kernel
theorem dX6_isAsTold_62 : decode cX6_isAsTold 62 = .ok (.iconst 1, 1) := by decide +kernel
theorem dX6_isAsTold_63 : decode cX6_isAsTold 63 = .ok (.goto 4, 3) := by decide +kernel
theorem dX6_isAsTold_66 : decode cX6_isAsTold 66 = .ok (.iconst 0, 1) := by decide +kernel
theorem dX6_isAsTold_67 : decode cX6_isAsTold 67 = .ok (.ireturn, 1) := by decide +kernel
