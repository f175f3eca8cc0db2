theorem dL_cell_0 : decode cL_cell 0 = .ok (.iload_n 1, 1) := by decide +kernel
theorem dL_cell_1 : decode cL_cell 1 = .ok (.aload_n 0, 1) := by decide +kernel
theorem dL_cell_2 : decode cL_cell 2 = .ok (.arraylength, 1) := by decide +kernel
theorem dL_cell_3 : decode cL_cell 3 = .ok (.if_icmp .ge 9, 3) := by decide +kernel
theorem dL_cell_6 : decode cL_cell 6 = .ok (.aload_n 0, 1) := by decide +kernel
theorem dL_cell_7 : decode cL_cell 7 = .ok (.iload_n 1, 1) := by decide +kernel
theorem dL_cell_8 : decode cL_cell 8 = .ok (.iaload, 1) := by decide +kernel
theorem dL_cell_9 : decode cL_cell 9 = .ok (.goto 11, 3) := by decide +kernel
theorem dL_cell_12 : decode cL_cell 12 = .ok (.ldc 7, 2) := by decide +kernel
theorem dL_cell_14 : decode cL_cell 14 = .ok (.iload_n 1, 1) := by decide +kernel
theorem dL_cell_15 : decode cL_cell 15 = .ok (.imul, 1) := by decide +kernel
theorem dL_cell_16 : decode cL_cell 16 = .ok (.sipush 977, 3) := by decide +kernel
theorem dL_cell_19 : decode cL_cell 19 = .ok (.iadd, 1) := by decide +kernel
theorem dL_cell_20 : decode cL_cell 20 = .ok (.ireturn, 1) := by decide +kernel
theorem dL_low_0 : decode cL_low 0 = .ok (.iload_n 0, 1) := by decide +kernel
theorem dL_low_1 : decode cL_low 1 = .ok (.ldc 8, 2) := by decide +kernel
theorem dL_low_3 : decode cL_low 3 = .ok (.iand, 1) := by decide +kernel
theorem dL_low_4 : decode cL_low 4 = .ok (.iload_n 1, 1) := by decide +kernel
theorem dL_low_5 : decode cL_low 5 = .ok (.irem, 1) := by decide +kernel
theorem dL_low_6 : decode cL_low 6 = .ok (.ireturn, 1) := by decide +kernel
theorem dL_change_0 : decode cL_change 0 = .ok (.aload_n 0, 1) := by decide +kernel
theorem dL_change_1 : decode cL_change 1 = .ok (.iconst 0, 1) := by decide +kernel
theorem dL_change_2 : decode cL_change 2 = .ok (.invokevirtual 9, 3) := by decide +kernel
theorem dL_change_5 : decode cL_change 5 = .ok (.istore 4, 2) := by decide +kernel
theorem dL_change_7 : decode cL_change 7 = .ok (.iload_n 2, 1) := by decide +kernel
theorem dL_change_8 : decode cL_change 8 = .ok (.iload 4, 2) := by decide +kernel
theorem dL_change_10 : decode cL_change 10 = .ok (.bipush 9, 2) := by decide +kernel
theorem dL_change_12 : decode cL_change 12 = .ok (.if_icmp .ge 10, 3) := by decide +kernel
theorem dL_change_15 : decode cL_change 15 = .ok (.iload 4, 2) := by decide +kernel
theorem dL_change_17 : decode cL_change 17 = .ok (.iconst 2, 1) := by decide +kernel
theorem dL_change_18 : decode cL_change 18 = .ok (.iadd, 1) := by decide +kernel
theorem dL_change_19 : decode cL_change 19 = .ok (.goto 5, 3) := by decide +kernel
theorem dL_change_22 : decode cL_change 22 = .ok (.iload 4, 2) := by decide +kernel
theorem dL_change_24 : decode cL_change 24 = .ok (.invokestatic 15, 3) := by decide +kernel
theorem dL_change_27 : decode cL_change 27 = .ok (.istore 5, 2) := by decide +kernel
theorem dL_change_29 : decode cL_change 29 = .ok (.iload_n 1, 1) := by decide +kernel
theorem dL_change_30 : decode cL_change 30 = .ok (.tableswitch 251 0 10 #[58, 58, 58, 104, 134, 159, 185, 212, 217, 224, 240], 58) := by decide +kernel
theorem dL_change_88 : decode cL_change 88 = .ok (.aload_n 0, 1) := by decide +kernel
theorem dL_change_89 : decode cL_change 89 = .ok (.iload 4, 2) := by decide +kernel
theorem dL_change_91 : decode cL_change 91 = .ok (.bipush 9, 2) := by decide +kernel
theorem dL_change_93 : decode cL_change 93 = .ok (.if_icmp .ge 8, 3) := by decide +kernel
theorem dL_change_96 : decode cL_change 96 = .ok (.iload 4, 2) := by decide +kernel
theorem dL_change_98 : decode cL_change 98 = .ok (.goto 9, 3) := by decide +kernel
theorem dL_change_101 : decode cL_change 101 = .ok (.iload_n 2, 1) := by decide +kernel
theorem dL_change_102 : decode cL_change 102 = .ok (.iload 4, 2) := by decide +kernel
theorem dL_change_104 : decode cL_change 104 = .ok (.invokestatic 15, 3) := by decide +kernel
theorem dL_change_107 : decode cL_change 107 = .ok (.iload_n 3, 1) := by decide +kernel
theorem dL_change_108 : decode cL_change 108 = .ok (.iconst 3, 1) := by decide +kernel
theorem dL_change_109 : decode cL_change 109 = .ok (.invokestatic 15, 3) := by decide +kernel
theorem dL_change_112 : decode cL_change 112 = .ok (.iload_n 3, 1) := by decide +kernel
theorem dL_change_113 : decode cL_change 113 = .ok (.iconst 4, 1) := by decide +kernel
theorem dL_change_114 : decode cL_change 114 = .ok (.iand, 1) := by decide +kernel
theorem dL_change_115 : decode cL_change 115 = .ok (.ifCond .eq 7, 3) := by decide +kernel
theorem dL_change_118 : decode cL_change 118 = .ok (.iconst 1, 1) := by decide +kernel
theorem dL_change_119 : decode cL_change 119 = .ok (.goto 4, 3) := by decide +kernel
theorem dL_change_122 : decode cL_change 122 = .ok (.iconst 0, 1) := by decide +kernel
theorem dL_change_123 : decode cL_change 123 = .ok (.iload_n 3, 1) := by decide +kernel
theorem dL_change_124 : decode cL_change 124 = .ok (.iconst 3, 1) := by decide +kernel
theorem dL_change_125 : decode cL_change 125 = .ok (.ishr, 1) := by decide +kernel
theorem dL_change_126 : decode cL_change 126 = .ok (.iconst 4, 1) := by decide +kernel
theorem dL_change_127 : decode cL_change 127 = .ok (.invokestatic 15, 3) := by decide +kernel
theorem dL_change_130 : decode cL_change 130 = .ok (.invokevirtual 21, 3) := by decide +kernel
theorem dL_change_133 : decode cL_change 133 = .ok (.ireturn, 1) := by decide +kernel
theorem dL_change_134 : decode cL_change 134 = .ok (.aload_n 0, 1) := by decide +kernel
theorem dL_change_135 : decode cL_change 135 = .ok (.iload 5, 2) := by decide +kernel
theorem dL_change_137 : decode cL_change 137 = .ok (.iload_n 3, 1) := by decide +kernel
theorem dL_change_138 : decode cL_change 138 = .ok (.iconst 4, 1) := by decide +kernel
theorem dL_change_139 : decode cL_change 139 = .ok (.invokestatic 15, 3) := by decide +kernel
theorem dL_change_142 : decode cL_change 142 = .ok (.iload_n 3, 1) := by decide +kernel
theorem dL_change_143 : decode cL_change 143 = .ok (.iconst 4, 1) := by decide +kernel
theorem dL_change_144 : decode cL_change 144 = .ok (.iand, 1) := by decide +kernel
theorem dL_change_145 : decode cL_change 145 = .ok (.ifCond .eq 7, 3) := by decide +kernel
theorem dL_change_148 : decode cL_change 148 = .ok (.iconst 1, 1) := by decide +kernel
theorem dL_change_149 : decode cL_change 149 = .ok (.goto 4, 3) := by decide +kernel
theorem dL_change_152 : decode cL_change 152 = .ok (.iconst 0, 1) := by decide +kernel
theorem dL_change_153 : decode cL_change 153 = .ok (.iload_n 3, 1) := by decide +kernel
theorem dL_change_154 : decode cL_change 154 = .ok (.iconst 3, 1) := by decide +kernel
theorem dL_change_155 : decode cL_change 155 = .ok (.ishr, 1) := by decide +kernel
theorem dL_change_156 : decode cL_change 156 = .ok (.iconst 5, 1) := by decide +kernel
theorem dL_change_157 : decode cL_change 157 = .ok (.invokestatic 15, 3) := by decide +kernel
theorem dL_change_160 : decode cL_change 160 = .ok (.invokevirtual 21, 3) := by decide +kernel
theorem dL_change_163 : decode cL_change 163 = .ok (.ireturn, 1) := by decide +kernel
theorem dL_change_164 : decode cL_change 164 = .ok (.aload_n 0, 1) := by decide +kernel
theorem dL_change_165 : decode cL_change 165 = .ok (.iload 4, 2) := by decide +kernel
theorem dL_change_167 : decode cL_change 167 = .ok (.bipush 9, 2) := by decide +kernel
theorem dL_change_169 : decode cL_change 169 = .ok (.if_icmp .ge 14, 3) := by decide +kernel
theorem dL_change_172 : decode cL_change 172 = .ok (.iload_n 2, 1) := by decide +kernel
theorem dL_change_173 : decode cL_change 173 = .ok (.iload 4, 2) := by decide +kernel
theorem dL_change_175 : decode cL_change 175 = .ok (.iconst 1, 1) := by decide +kernel
theorem dL_change_176 : decode cL_change 176 = .ok (.iadd, 1) := by decide +kernel
theorem dL_change_177 : decode cL_change 177 = .ok (.invokestatic 15, 3) := by decide +kernel
theorem dL_change_180 : decode cL_change 180 = .ok (.goto 5, 3) := by decide +kernel
theorem dL_change_183 : decode cL_change 183 = .ok (.iload 5, 2) := by decide +kernel
theorem dL_change_185 : decode cL_change 185 = .ok (.invokevirtual 25, 3) := by decide +kernel
theorem dL_change_188 : decode cL_change 188 = .ok (.ireturn, 1) := by decide +kernel
theorem dL_change_189 : decode cL_change 189 = .ok (.iload 4, 2) := by decide +kernel
theorem dL_change_191 : decode cL_change 191 = .ok (.bipush 9, 2) := by decide +kernel
theorem dL_change_193 : decode cL_change 193 = .ok (.if_icmp .ge 20, 3) := by decide +kernel
theorem dL_change_196 : decode cL_change 196 = .ok (.aload_n 0, 1) := by decide +kernel
theorem dL_change_197 : decode cL_change 197 = .ok (.iload 5, 2) := by decide +kernel
theorem dL_change_199 : decode cL_change 199 = .ok (.iload_n 3, 1) := by decide +kernel
theorem dL_change_200 : decode cL_change 200 = .ok (.iload 4, 2) := by decide +kernel
theorem dL_change_202 : decode cL_change 202 = .ok (.iconst 1, 1) := by decide +kernel
theorem dL_change_203 : decode cL_change 203 = .ok (.iadd, 1) := by decide +kernel
theorem dL_change_204 : decode cL_change 204 = .ok (.invokestatic 15, 3) := by decide +kernel
theorem dL_change_207 : decode cL_change 207 = .ok (.invokevirtual 28, 3) := by decide +kernel
theorem dL_change_210 : decode cL_change 210 = .ok (.goto 4, 3) := by decide +kernel
theorem dL_change_213 : decode cL_change 213 = .ok (.iconst (-1), 1) := by decide +kernel
theorem dL_change_214 : decode cL_change 214 = .ok (.ireturn, 1) := by decide +kernel
theorem dL_change_215 : decode cL_change 215 = .ok (.iload_n 3, 1) := by decide +kernel
theorem dL_change_216 : decode cL_change 216 = .ok (.iconst 3, 1) := by decide +kernel
theorem dL_change_217 : decode cL_change 217 = .ok (.iand, 1) := by decide +kernel
theorem dL_change_218 : decode cL_change 218 = .ok (.ifCond .ne 22, 3) := by decide +kernel
theorem dL_change_221 : decode cL_change 221 = .ok (.aload_n 0, 1) := by decide +kernel
theorem dL_change_222 : decode cL_change 222 = .ok (.iload 5, 2) := by decide +kernel
theorem dL_change_224 : decode cL_change 224 = .ok (.iload 5, 2) := by decide +kernel
theorem dL_change_226 : decode cL_change 226 = .ok (.iload_n 3, 1) := by decide +kernel
theorem dL_change_227 : decode cL_change 227 = .ok (.iconst 2, 1) := by decide +kernel
theorem dL_change_228 : decode cL_change 228 = .ok (.ishr, 1) := by decide +kernel
theorem dL_change_229 : decode cL_change 229 = .ok (.iconst 3, 1) := by decide +kernel
theorem dL_change_230 : decode cL_change 230 = .ok (.invokestatic 15, 3) := by decide +kernel
theorem dL_change_233 : decode cL_change 233 = .ok (.iadd, 1) := by decide +kernel
theorem dL_change_234 : decode cL_change 234 = .ok (.invokevirtual 31, 3) := by decide +kernel
theorem dL_change_237 : decode cL_change 237 = .ok (.goto 4, 3) := by decide +kernel
theorem dL_change_240 : decode cL_change 240 = .ok (.iconst (-1), 1) := by decide +kernel
theorem dL_change_241 : decode cL_change 241 = .ok (.ireturn, 1) := by decide +kernel
theorem dL_change_242 : decode cL_change 242 = .ok (.aload_n 0, 1) := by decide +kernel
theorem dL_change_243 : decode cL_change 243 = .ok (.invokevirtual 34, 3) := by decide +kernel
theorem dL_change_246 : decode cL_change 246 = .ok (.ireturn, 1) := by decide +kernel
theorem dL_change_247 : decode cL_change 247 = .ok (.aload_n 0, 1) := by decide +kernel
theorem dL_change_248 : decode cL_change 248 = .ok (.iload 5, 2) := by decide +kernel
theorem dL_change_250 : decode cL_change 250 = .ok (.invokevirtual 38, 3) := by decide +kernel
theorem dL_change_253 : decode cL_change 253 = .ok (.ireturn, 1) := by decide +kernel
theorem dL_change_254 : decode cL_change 254 = .ok (.aload_n 0, 1) := by decide +kernel
theorem dL_change_255 : decode cL_change 255 = .ok (.iload_n 2, 1) := by decide +kernel
theorem dL_change_256 : decode cL_change 256 = .ok (.iconst 1, 1) := by decide +kernel
theorem dL_change_257 : decode cL_change 257 = .ok (.iand, 1) := by decide +kernel
theorem dL_change_258 : decode cL_change 258 = .ok (.ifCond .ne 7, 3) := by decide +kernel
theorem dL_change_261 : decode cL_change 261 = .ok (.iconst 1, 1) := by decide +kernel
theorem dL_change_262 : decode cL_change 262 = .ok (.goto 4, 3) := by decide +kernel
theorem dL_change_265 : decode cL_change 265 = .ok (.iconst 0, 1) := by decide +kernel
theorem dL_change_266 : decode cL_change 266 = .ok (.invokevirtual 41, 3) := by decide +kernel
theorem dL_change_269 : decode cL_change 269 = .ok (.ireturn, 1) := by decide +kernel
theorem dL_change_270 : decode cL_change 270 = .ok (.aload_n 0, 1) := by decide +kernel
theorem dL_change_271 : decode cL_change 271 = .ok (.iload_n 2, 1) := by decide +kernel
theorem dL_change_272 : decode cL_change 272 = .ok (.bipush 6, 2) := by decide +kernel
theorem dL_change_274 : decode cL_change 274 = .ok (.invokestatic 15, 3) := by decide +kernel
theorem dL_change_277 : decode cL_change 277 = .ok (.invokevirtual 45, 3) := by decide +kernel
theorem dL_change_280 : decode cL_change 280 = .ok (.ireturn, 1) := by decide +kernel
theorem dL_change_281 : decode cL_change 281 = .ok (.iload_n 3, 1) := by decide +kernel
theorem dL_change_282 : decode cL_change 282 = .ok (.bipush 7, 2) := by decide +kernel
theorem dL_change_284 : decode cL_change 284 = .ok (.iand, 1) := by decide +kernel
theorem dL_change_285 : decode cL_change 285 = .ok (.ifCond .ne 21, 3) := by decide +kernel
theorem dL_change_288 : decode cL_change 288 = .ok (.aload_n 0, 1) := by decide +kernel
theorem dL_change_289 : decode cL_change 289 = .ok (.iload_n 2, 1) := by decide +kernel
theorem dL_change_290 : decode cL_change 290 = .ok (.iconst 1, 1) := by decide +kernel
theorem dL_change_291 : decode cL_change 291 = .ok (.iand, 1) := by decide +kernel
theorem dL_change_292 : decode cL_change 292 = .ok (.ifCond .ne 7, 3) := by decide +kernel
theorem dL_change_295 : decode cL_change 295 = .ok (.iconst 1, 1) := by decide +kernel
theorem dL_change_296 : decode cL_change 296 = .ok (.goto 4, 3) := by decide +kernel
theorem dL_change_299 : decode cL_change 299 = .ok (.iconst 0, 1) := by decide +kernel
theorem dL_change_300 : decode cL_change 300 = .ok (.invokevirtual 48, 3) := by decide +kernel
theorem dL_change_303 : decode cL_change 303 = .ok (.goto 4, 3) := by decide +kernel
theorem dL_change_306 : decode cL_change 306 = .ok (.iconst (-1), 1) := by decide +kernel
theorem dL_change_307 : decode cL_change 307 = .ok (.ireturn, 1) := by decide +kernel
theorem dL_blows_0 : decode cL_blows 0 = .ok (.aload_n 0, 1) := by decide +kernel
theorem dL_blows_1 : decode cL_blows 1 = .ok (.iload_n 1, 1) := by decide +kernel
theorem dL_blows_2 : decode cL_blows 2 = .ok (.iconst 2, 1) := by decide +kernel
theorem dL_blows_3 : decode cL_blows 3 = .ok (.invokevirtual 51, 3) := by decide +kernel
theorem dL_blows_6 : decode cL_blows 6 = .ok (.istore 4, 2) := by decide +kernel
theorem dL_blows_8 : decode cL_blows 8 = .ok (.iload_n 2, 1) := by decide +kernel
theorem dL_blows_9 : decode cL_blows 9 = .ok (.iload_n 3, 1) := by decide +kernel
theorem dL_blows_10 : decode cL_blows 10 = .ok (.if_icmp .ne 21, 3) := by decide +kernel
theorem dL_blows_13 : decode cL_blows 13 = .ok (.bipush 16, 2) := by decide +kernel
theorem dL_blows_15 : decode cL_blows 15 = .ok (.iload 4, 2) := by decide +kernel
theorem dL_blows_17 : decode cL_blows 17 = .ok (.iconst 3, 1) := by decide +kernel
theorem dL_blows_18 : decode cL_blows 18 = .ok (.if_icmp .ne 8, 3) := by decide +kernel
theorem dL_blows_21 : decode cL_blows 21 = .ok (.bipush 64, 2) := by decide +kernel
theorem dL_blows_23 : decode cL_blows 23 = .ok (.goto 4, 3) := by decide +kernel
theorem dL_blows_26 : decode cL_blows 26 = .ok (.iconst 0, 1) := by decide +kernel
theorem dL_blows_27 : decode cL_blows 27 = .ok (.ior, 1) := by decide +kernel
theorem dL_blows_28 : decode cL_blows 28 = .ok (.goto 26, 3) := by decide +kernel
theorem dL_blows_31 : decode cL_blows 31 = .ok (.iload 4, 2) := by decide +kernel
theorem dL_blows_33 : decode cL_blows 33 = .ok (.iconst 1, 1) := by decide +kernel
theorem dL_blows_34 : decode cL_blows 34 = .ok (.if_icmp .ne 8, 3) := by decide +kernel
theorem dL_blows_37 : decode cL_blows 37 = .ok (.bipush 8, 2) := by decide +kernel
theorem dL_blows_39 : decode cL_blows 39 = .ok (.goto 15, 3) := by decide +kernel
theorem dL_blows_42 : decode cL_blows 42 = .ok (.iload 4, 2) := by decide +kernel
theorem dL_blows_44 : decode cL_blows 44 = .ok (.iconst 2, 1) := by decide +kernel
theorem dL_blows_45 : decode cL_blows 45 = .ok (.if_icmp .ne 8, 3) := by decide +kernel
theorem dL_blows_48 : decode cL_blows 48 = .ok (.bipush 12, 2) := by decide +kernel
theorem dL_blows_50 : decode cL_blows 50 = .ok (.goto 4, 3) := by decide +kernel
theorem dL_blows_53 : decode cL_blows 53 = .ok (.iconst 0, 1) := by decide +kernel
theorem dL_blows_54 : decode cL_blows 54 = .ok (.istore 5, 2) := by decide +kernel
theorem dL_blows_56 : decode cL_blows 56 = .ok (.aload_n 0, 1) := by decide +kernel
theorem dL_blows_57 : decode cL_blows 57 = .ok (.iload_n 1, 1) := by decide +kernel
theorem dL_blows_58 : decode cL_blows 58 = .ok (.iconst 0, 1) := by decide +kernel
theorem dL_blows_59 : decode cL_blows 59 = .ok (.invokevirtual 51, 3) := by decide +kernel
theorem dL_blows_62 : decode cL_blows 62 = .ok (.bipush (-4), 2) := by decide +kernel
theorem dL_blows_64 : decode cL_blows 64 = .ok (.if_icmp .ne 7, 3) := by decide +kernel
theorem dL_blows_67 : decode cL_blows 67 = .ok (.iconst 0, 1) := by decide +kernel
theorem dL_blows_68 : decode cL_blows 68 = .ok (.goto 5, 3) := by decide +kernel
theorem dL_blows_71 : decode cL_blows 71 = .ok (.iload 5, 2) := by decide +kernel
theorem dL_blows_73 : decode cL_blows 73 = .ok (.ireturn, 1) := by decide +kernel
theorem dL_clash_0 : decode cL_clash 0 = .ok (.iconst 0, 1) := by decide +kernel
theorem dL_clash_1 : decode cL_clash 1 = .ok (.istore 5, 2) := by decide +kernel
theorem dL_clash_3 : decode cL_clash 3 = .ok (.iconst 0, 1) := by decide +kernel
theorem dL_clash_4 : decode cL_clash 4 = .ok (.istore 6, 2) := by decide +kernel
theorem dL_clash_6 : decode cL_clash 6 = .ok (.iload 6, 2) := by decide +kernel
theorem dL_clash_8 : decode cL_clash 8 = .ok (.iconst 2, 1) := by decide +kernel
theorem dL_clash_9 : decode cL_clash 9 = .ok (.if_icmp .ge 99, 3) := by decide +kernel
theorem dL_clash_12 : decode cL_clash 12 = .ok (.aload_n 0, 1) := by decide +kernel
theorem dL_clash_13 : decode cL_clash 13 = .ok (.iload_n 1, 1) := by decide +kernel
theorem dL_clash_14 : decode cL_clash 14 = .ok (.iload_n 2, 1) := by decide +kernel
theorem dL_clash_15 : decode cL_clash 15 = .ok (.iload 6, 2) := by decide +kernel
theorem dL_clash_17 : decode cL_clash 17 = .ok (.invokestatic 54, 3) := by decide +kernel
theorem dL_clash_20 : decode cL_clash 20 = .ok (.istore 7, 2) := by decide +kernel
theorem dL_clash_22 : decode cL_clash 22 = .ok (.aload_n 0, 1) := by decide +kernel
theorem dL_clash_23 : decode cL_clash 23 = .ok (.iload_n 3, 1) := by decide +kernel
theorem dL_clash_24 : decode cL_clash 24 = .ok (.iload 4, 2) := by decide +kernel
theorem dL_clash_26 : decode cL_clash 26 = .ok (.iload 6, 2) := by decide +kernel
theorem dL_clash_28 : decode cL_clash 28 = .ok (.invokestatic 54, 3) := by decide +kernel
theorem dL_clash_31 : decode cL_clash 31 = .ok (.iconst 4, 1) := by decide +kernel
theorem dL_clash_32 : decode cL_clash 32 = .ok (.ishl, 1) := by decide +kernel
theorem dL_clash_33 : decode cL_clash 33 = .ok (.istore 8, 2) := by decide +kernel
theorem dL_clash_35 : decode cL_clash 35 = .ok (.iconst 1, 1) := by decide +kernel
theorem dL_clash_36 : decode cL_clash 36 = .ok (.aload_n 0, 1) := by decide +kernel
theorem dL_clash_37 : decode cL_clash 37 = .ok (.bipush 11, 2) := by decide +kernel
theorem dL_clash_39 : decode cL_clash 39 = .ok (.invokevirtual 9, 3) := by decide +kernel
theorem dL_clash_42 : decode cL_clash 42 = .ok (.isub, 1) := by decide +kernel
theorem dL_clash_43 : decode cL_clash 43 = .ok (.istore 9, 2) := by decide +kernel
theorem dL_clash_45 : decode cL_clash 45 = .ok (.iload 9, 2) := by decide +kernel
theorem dL_clash_47 : decode cL_clash 47 = .ok (.aload_n 0, 1) := by decide +kernel
theorem dL_clash_48 : decode cL_clash 48 = .ok (.bipush 11, 2) := by decide +kernel
theorem dL_clash_50 : decode cL_clash 50 = .ok (.invokevirtual 9, 3) := by decide +kernel
theorem dL_clash_53 : decode cL_clash 53 = .ok (.if_icmp .ge 49, 3) := by decide +kernel
theorem dL_clash_56 : decode cL_clash 56 = .ok (.iload 5, 2) := by decide +kernel
theorem dL_clash_58 : decode cL_clash 58 = .ok (.ifCond .ne 31, 3) := by decide +kernel
theorem dL_clash_61 : decode cL_clash 61 = .ok (.iload 9, 2) := by decide +kernel
theorem dL_clash_63 : decode cL_clash 63 = .ok (.ifCond .ge 15, 3) := by decide +kernel
theorem dL_clash_66 : decode cL_clash 66 = .ok (.iload 7, 2) := by decide +kernel
theorem dL_clash_68 : decode cL_clash 68 = .ok (.iload 9, 2) := by decide +kernel
theorem dL_clash_70 : decode cL_clash 70 = .ok (.ineg, 1) := by decide +kernel
theorem dL_clash_71 : decode cL_clash 71 = .ok (.ishl, 1) := by decide +kernel
theorem dL_clash_72 : decode cL_clash 72 = .ok (.iload 8, 2) := by decide +kernel
theorem dL_clash_74 : decode cL_clash 74 = .ok (.iand, 1) := by decide +kernel
theorem dL_clash_75 : decode cL_clash 75 = .ok (.goto 11, 3) := by decide +kernel
theorem dL_clash_78 : decode cL_clash 78 = .ok (.iload 7, 2) := by decide +kernel
theorem dL_clash_80 : decode cL_clash 80 = .ok (.iload 9, 2) := by decide +kernel
theorem dL_clash_82 : decode cL_clash 82 = .ok (.ishr, 1) := by decide +kernel
theorem dL_clash_83 : decode cL_clash 83 = .ok (.iload 8, 2) := by decide +kernel
theorem dL_clash_85 : decode cL_clash 85 = .ok (.iand, 1) := by decide +kernel
theorem dL_clash_86 : decode cL_clash 86 = .ok (.ifCond .eq 7, 3) := by decide +kernel
theorem dL_clash_89 : decode cL_clash 89 = .ok (.iconst 1, 1) := by decide +kernel
theorem dL_clash_90 : decode cL_clash 90 = .ok (.goto 4, 3) := by decide +kernel
theorem dL_clash_93 : decode cL_clash 93 = .ok (.iconst 0, 1) := by decide +kernel
theorem dL_clash_94 : decode cL_clash 94 = .ok (.istore 5, 2) := by decide +kernel
theorem dL_clash_96 : decode cL_clash 96 = .ok (.iinc 9 1, 3) := by decide +kernel
theorem dL_clash_99 : decode cL_clash 99 = .ok (.goto (-54), 3) := by decide +kernel
theorem dL_clash_102 : decode cL_clash 102 = .ok (.iinc 6 1, 3) := by decide +kernel
theorem dL_clash_105 : decode cL_clash 105 = .ok (.goto (-99), 3) := by decide +kernel
theorem dL_clash_108 : decode cL_clash 108 = .ok (.iload 5, 2) := by decide +kernel
theorem dL_clash_110 : decode cL_clash 110 = .ok (.ireturn, 1) := by decide +kernel
theorem dL_can_0 : decode cL_can 0 = .ok (.aload_n 0, 1) := by decide +kernel
theorem dL_can_1 : decode cL_can 1 = .ok (.iconst 0, 1) := by decide +kernel
theorem dL_can_2 : decode cL_can 2 = .ok (.invokevirtual 9, 3) := by decide +kernel
theorem dL_can_5 : decode cL_can 5 = .ok (.istore_n 3, 1) := by decide +kernel
theorem dL_can_6 : decode cL_can 6 = .ok (.iconst 1, 1) := by decide +kernel
theorem dL_can_7 : decode cL_can 7 = .ok (.istore 4, 2) := by decide +kernel
theorem dL_can_9 : decode cL_can 9 = .ok (.iconst 0, 1) := by decide +kernel
theorem dL_can_10 : decode cL_can 10 = .ok (.istore 5, 2) := by decide +kernel
theorem dL_can_12 : decode cL_can 12 = .ok (.iload 5, 2) := by decide +kernel
theorem dL_can_14 : decode cL_can 14 = .ok (.iload_n 3, 1) := by decide +kernel
theorem dL_can_15 : decode cL_can 15 = .ok (.if_icmp .ge 71, 3) := by decide +kernel
theorem dL_can_18 : decode cL_can 18 = .ok (.iload 4, 2) := by decide +kernel
theorem dL_can_20 : decode cL_can 20 = .ok (.ifCond .eq 66, 3) := by decide +kernel
theorem dL_can_23 : decode cL_can 23 = .ok (.iload 5, 2) := by decide +kernel
theorem dL_can_25 : decode cL_can 25 = .ok (.iconst 1, 1) := by decide +kernel
theorem dL_can_26 : decode cL_can 26 = .ok (.iadd, 1) := by decide +kernel
theorem dL_can_27 : decode cL_can 27 = .ok (.iload_n 3, 1) := by decide +kernel
theorem dL_can_28 : decode cL_can 28 = .ok (.if_icmp .ge 10, 3) := by decide +kernel
theorem dL_can_31 : decode cL_can 31 = .ok (.iload 5, 2) := by decide +kernel
theorem dL_can_33 : decode cL_can 33 = .ok (.iconst 1, 1) := by decide +kernel
theorem dL_can_34 : decode cL_can 34 = .ok (.iadd, 1) := by decide +kernel
theorem dL_can_35 : decode cL_can 35 = .ok (.goto 4, 3) := by decide +kernel
theorem dL_can_38 : decode cL_can 38 = .ok (.iconst 0, 1) := by decide +kernel
theorem dL_can_39 : decode cL_can 39 = .ok (.istore 6, 2) := by decide +kernel
theorem dL_can_41 : decode cL_can 41 = .ok (.iload_n 2, 1) := by decide +kernel
theorem dL_can_42 : decode cL_can 42 = .ok (.ifCond .ne 8, 3) := by decide +kernel
theorem dL_can_45 : decode cL_can 45 = .ok (.iload 6, 2) := by decide +kernel
theorem dL_can_47 : decode cL_can 47 = .ok (.ifCond .eq 26, 3) := by decide +kernel
theorem dL_can_50 : decode cL_can 50 = .ok (.aload_n 0, 1) := by decide +kernel
theorem dL_can_51 : decode cL_can 51 = .ok (.iload 5, 2) := by decide +kernel
theorem dL_can_53 : decode cL_can 53 = .ok (.iload_n 1, 1) := by decide +kernel
theorem dL_can_54 : decode cL_can 54 = .ok (.iload 5, 2) := by decide +kernel
theorem dL_can_56 : decode cL_can 56 = .ok (.ishr, 1) := by decide +kernel
theorem dL_can_57 : decode cL_can 57 = .ok (.iconst 1, 1) := by decide +kernel
theorem dL_can_58 : decode cL_can 58 = .ok (.iand, 1) := by decide +kernel
theorem dL_can_59 : decode cL_can 59 = .ok (.iload 6, 2) := by decide +kernel
theorem dL_can_61 : decode cL_can 61 = .ok (.iload_n 1, 1) := by decide +kernel
theorem dL_can_62 : decode cL_can 62 = .ok (.iload 6, 2) := by decide +kernel
theorem dL_can_64 : decode cL_can 64 = .ok (.ishr, 1) := by decide +kernel
theorem dL_can_65 : decode cL_can 65 = .ok (.iconst 1, 1) := by decide +kernel
theorem dL_can_66 : decode cL_can 66 = .ok (.iand, 1) := by decide +kernel
theorem dL_can_67 : decode cL_can 67 = .ok (.invokestatic 58, 3) := by decide +kernel
theorem dL_can_70 : decode cL_can 70 = .ok (.ifCond .ne 7, 3) := by decide +kernel
theorem dL_can_73 : decode cL_can 73 = .ok (.iconst 1, 1) := by decide +kernel
theorem dL_can_74 : decode cL_can 74 = .ok (.goto 4, 3) := by decide +kernel
theorem dL_can_77 : decode cL_can 77 = .ok (.iconst 0, 1) := by decide +kernel
theorem dL_can_78 : decode cL_can 78 = .ok (.istore 4, 2) := by decide +kernel
theorem dL_can_80 : decode cL_can 80 = .ok (.iinc 5 1, 3) := by decide +kernel
theorem dL_can_83 : decode cL_can 83 = .ok (.goto (-71), 3) := by decide +kernel
theorem dL_can_86 : decode cL_can 86 = .ok (.iload 4, 2) := by decide +kernel
theorem dL_can_88 : decode cL_can 88 = .ok (.ireturn, 1) := by decide +kernel
theorem dL_repeated_0 : decode cL_repeated 0 = .ok (.iconst 0, 1) := by decide +kernel
theorem dL_repeated_1 : decode cL_repeated 1 = .ok (.istore_n 2, 1) := by decide +kernel
theorem dL_repeated_2 : decode cL_repeated 2 = .ok (.iconst (-1), 1) := by decide +kernel
theorem dL_repeated_3 : decode cL_repeated 3 = .ok (.istore_n 3, 1) := by decide +kernel
theorem dL_repeated_4 : decode cL_repeated 4 = .ok (.iconst 0, 1) := by decide +kernel
theorem dL_repeated_5 : decode cL_repeated 5 = .ok (.istore 4, 2) := by decide +kernel
theorem dL_repeated_7 : decode cL_repeated 7 = .ok (.iload 4, 2) := by decide +kernel
theorem dL_repeated_9 : decode cL_repeated 9 = .ok (.aload_n 0, 1) := by decide +kernel
theorem dL_repeated_10 : decode cL_repeated 10 = .ok (.iconst 0, 1) := by decide +kernel
theorem dL_repeated_11 : decode cL_repeated 11 = .ok (.invokevirtual 9, 3) := by decide +kernel
theorem dL_repeated_14 : decode cL_repeated 14 = .ok (.if_icmp .ge 46, 3) := by decide +kernel
theorem dL_repeated_17 : decode cL_repeated 17 = .ok (.aload_n 0, 1) := by decide +kernel
theorem dL_repeated_18 : decode cL_repeated 18 = .ok (.iload 4, 2) := by decide +kernel
theorem dL_repeated_20 : decode cL_repeated 20 = .ok (.iconst 0, 1) := by decide +kernel
theorem dL_repeated_21 : decode cL_repeated 21 = .ok (.invokevirtual 51, 3) := by decide +kernel
theorem dL_repeated_24 : decode cL_repeated 24 = .ok (.bipush (-4), 2) := by decide +kernel
theorem dL_repeated_26 : decode cL_repeated 26 = .ok (.if_icmp .eq 28, 3) := by decide +kernel
theorem dL_repeated_29 : decode cL_repeated 29 = .ok (.iload_n 2, 1) := by decide +kernel
theorem dL_repeated_30 : decode cL_repeated 30 = .ok (.iload_n 1, 1) := by decide +kernel
theorem dL_repeated_31 : decode cL_repeated 31 = .ok (.iload 4, 2) := by decide +kernel
theorem dL_repeated_33 : decode cL_repeated 33 = .ok (.ishr, 1) := by decide +kernel
theorem dL_repeated_34 : decode cL_repeated 34 = .ok (.iconst 1, 1) := by decide +kernel
theorem dL_repeated_35 : decode cL_repeated 35 = .ok (.iand, 1) := by decide +kernel
theorem dL_repeated_36 : decode cL_repeated 36 = .ok (.iload_n 3, 1) := by decide +kernel
theorem dL_repeated_37 : decode cL_repeated 37 = .ok (.if_icmp .ne 7, 3) := by decide +kernel
theorem dL_repeated_40 : decode cL_repeated 40 = .ok (.iconst 1, 1) := by decide +kernel
theorem dL_repeated_41 : decode cL_repeated 41 = .ok (.goto 4, 3) := by decide +kernel
theorem dL_repeated_44 : decode cL_repeated 44 = .ok (.iconst 0, 1) := by decide +kernel
theorem dL_repeated_45 : decode cL_repeated 45 = .ok (.iadd, 1) := by decide +kernel
theorem dL_repeated_46 : decode cL_repeated 46 = .ok (.istore_n 2, 1) := by decide +kernel
theorem dL_repeated_47 : decode cL_repeated 47 = .ok (.iload_n 1, 1) := by decide +kernel
theorem dL_repeated_48 : decode cL_repeated 48 = .ok (.iload 4, 2) := by decide +kernel
theorem dL_repeated_50 : decode cL_repeated 50 = .ok (.ishr, 1) := by decide +kernel
theorem dL_repeated_51 : decode cL_repeated 51 = .ok (.iconst 1, 1) := by decide +kernel
theorem dL_repeated_52 : decode cL_repeated 52 = .ok (.iand, 1) := by decide +kernel
theorem dL_repeated_53 : decode cL_repeated 53 = .ok (.istore_n 3, 1) := by decide +kernel
theorem dL_repeated_54 : decode cL_repeated 54 = .ok (.iinc 4 1, 3) := by decide +kernel
theorem dL_repeated_57 : decode cL_repeated 57 = .ok (.goto (-50), 3) := by decide +kernel
theorem dL_repeated_60 : decode cL_repeated 60 = .ok (.iload_n 2, 1) := by decide +kernel
theorem dL_repeated_61 : decode cL_repeated 61 = .ok (.ireturn, 1) := by decide +kernel
theorem dL_areStickings_0 : decode cL_areStickings 0 = .ok (.aload_n 0, 1) := by decide +kernel
theorem dL_areStickings_1 : decode cL_areStickings 1 = .ok (.iconst 0, 1) := by decide +kernel
theorem dL_areStickings_2 : decode cL_areStickings 2 = .ok (.invokevirtual 9, 3) := by decide +kernel
theorem dL_areStickings_5 : decode cL_areStickings 5 = .ok (.istore_n 1, 1) := by decide +kernel
theorem dL_areStickings_6 : decode cL_areStickings 6 = .ok (.iconst 0, 1) := by decide +kernel
theorem dL_areStickings_7 : decode cL_areStickings 7 = .ok (.istore_n 2, 1) := by decide +kernel
theorem dL_areStickings_8 : decode cL_areStickings 8 = .ok (.iconst 0, 1) := by decide +kernel
theorem dL_areStickings_9 : decode cL_areStickings 9 = .ok (.istore_n 3, 1) := by decide +kernel
theorem dL_areStickings_10 : decode cL_areStickings 10 = .ok (.iconst (-1), 1) := by decide +kernel
theorem dL_areStickings_11 : decode cL_areStickings 11 = .ok (.istore 4, 2) := by decide +kernel
theorem dL_areStickings_13 : decode cL_areStickings 13 = .ok (.iconst (-1), 1) := by decide +kernel
theorem dL_areStickings_14 : decode cL_areStickings 14 = .ok (.istore 5, 2) := by decide +kernel
theorem dL_areStickings_16 : decode cL_areStickings 16 = .ok (.iconst 0, 1) := by decide +kernel
theorem dL_areStickings_17 : decode cL_areStickings 17 = .ok (.istore 6, 2) := by decide +kernel
theorem dL_areStickings_19 : decode cL_areStickings 19 = .ok (.iconst 0, 1) := by decide +kernel
theorem dL_areStickings_20 : decode cL_areStickings 20 = .ok (.istore 7, 2) := by decide +kernel
theorem dL_areStickings_22 : decode cL_areStickings 22 = .ok (.iload 7, 2) := by decide +kernel
theorem dL_areStickings_24 : decode cL_areStickings 24 = .ok (.iconst 1, 1) := by decide +kernel
theorem dL_areStickings_25 : decode cL_areStickings 25 = .ok (.iload_n 1, 1) := by decide +kernel
theorem dL_areStickings_26 : decode cL_areStickings 26 = .ok (.ishl, 1) := by decide +kernel
theorem dL_areStickings_27 : decode cL_areStickings 27 = .ok (.if_icmp .ge 180, 3) := by decide +kernel
theorem dL_areStickings_30 : decode cL_areStickings 30 = .ok (.iconst 0, 1) := by decide +kernel
theorem dL_areStickings_31 : decode cL_areStickings 31 = .ok (.istore 8, 2) := by decide +kernel
theorem dL_areStickings_33 : decode cL_areStickings 33 = .ok (.iconst 1, 1) := by decide +kernel
theorem dL_areStickings_34 : decode cL_areStickings 34 = .ok (.istore 9, 2) := by decide +kernel
theorem dL_areStickings_36 : decode cL_areStickings 36 = .ok (.iconst 0, 1) := by decide +kernel
theorem dL_areStickings_37 : decode cL_areStickings 37 = .ok (.istore 10, 2) := by decide +kernel
theorem dL_areStickings_39 : decode cL_areStickings 39 = .ok (.iload 10, 2) := by decide +kernel
theorem dL_areStickings_41 : decode cL_areStickings 41 = .ok (.iload_n 1, 1) := by decide +kernel
theorem dL_areStickings_42 : decode cL_areStickings 42 = .ok (.if_icmp .ge 81, 3) := by decide +kernel
theorem dL_areStickings_45 : decode cL_areStickings 45 = .ok (.iload 7, 2) := by decide +kernel
theorem dL_areStickings_47 : decode cL_areStickings 47 = .ok (.iload_n 1, 1) := by decide +kernel
theorem dL_areStickings_48 : decode cL_areStickings 48 = .ok (.iconst 1, 1) := by decide +kernel
theorem dL_areStickings_49 : decode cL_areStickings 49 = .ok (.isub, 1) := by decide +kernel
theorem dL_areStickings_50 : decode cL_areStickings 50 = .ok (.iload 10, 2) := by decide +kernel
theorem dL_areStickings_52 : decode cL_areStickings 52 = .ok (.isub, 1) := by decide +kernel
theorem dL_areStickings_53 : decode cL_areStickings 53 = .ok (.ishr, 1) := by decide +kernel
theorem dL_areStickings_54 : decode cL_areStickings 54 = .ok (.iconst 1, 1) := by decide +kernel
theorem dL_areStickings_55 : decode cL_areStickings 55 = .ok (.iand, 1) := by decide +kernel
theorem dL_areStickings_56 : decode cL_areStickings 56 = .ok (.istore 11, 2) := by decide +kernel
theorem dL_areStickings_58 : decode cL_areStickings 58 = .ok (.aload_n 0, 1) := by decide +kernel
theorem dL_areStickings_59 : decode cL_areStickings 59 = .ok (.iload 10, 2) := by decide +kernel
theorem dL_areStickings_61 : decode cL_areStickings 61 = .ok (.iconst 0, 1) := by decide +kernel
theorem dL_areStickings_62 : decode cL_areStickings 62 = .ok (.invokevirtual 51, 3) := by decide +kernel
theorem dL_areStickings_65 : decode cL_areStickings 65 = .ok (.istore 12, 2) := by decide +kernel
theorem dL_areStickings_67 : decode cL_areStickings 67 = .ok (.iload 9, 2) := by decide +kernel
theorem dL_areStickings_69 : decode cL_areStickings 69 = .ok (.ifCond .eq 35, 3) := by decide +kernel
theorem dL_areStickings_72 : decode cL_areStickings 72 = .ok (.iload 12, 2) := by decide +kernel
theorem dL_areStickings_74 : decode cL_areStickings 74 = .ok (.bipush (-4), 2) := by decide +kernel
theorem dL_areStickings_76 : decode cL_areStickings 76 = .ok (.if_icmp .ne 11, 3) := by decide +kernel
theorem dL_areStickings_79 : decode cL_areStickings 79 = .ok (.iload 11, 2) := by decide +kernel
theorem dL_areStickings_81 : decode cL_areStickings 81 = .ok (.ifCond .ne 23, 3) := by decide +kernel
theorem dL_areStickings_84 : decode cL_areStickings 84 = .ok (.goto 16, 3) := by decide +kernel
theorem dL_areStickings_87 : decode cL_areStickings 87 = .ok (.iload 12, 2) := by decide +kernel
theorem dL_areStickings_89 : decode cL_areStickings 89 = .ok (.iconst 2, 1) := by decide +kernel
theorem dL_areStickings_90 : decode cL_areStickings 90 = .ok (.if_icmp .eq 10, 3) := by decide +kernel
theorem dL_areStickings_93 : decode cL_areStickings 93 = .ok (.iload 12, 2) := by decide +kernel
theorem dL_areStickings_95 : decode cL_areStickings 95 = .ok (.iload 11, 2) := by decide +kernel
theorem dL_areStickings_97 : decode cL_areStickings 97 = .ok (.if_icmp .ne 7, 3) := by decide +kernel
theorem dL_areStickings_100 : decode cL_areStickings 100 = .ok (.iconst 1, 1) := by decide +kernel
theorem dL_areStickings_101 : decode cL_areStickings 101 = .ok (.goto 4, 3) := by decide +kernel
theorem dL_areStickings_104 : decode cL_areStickings 104 = .ok (.iconst 0, 1) := by decide +kernel
theorem dL_areStickings_105 : decode cL_areStickings 105 = .ok (.istore 9, 2) := by decide +kernel
theorem dL_areStickings_107 : decode cL_areStickings 107 = .ok (.iload 8, 2) := by decide +kernel
theorem dL_areStickings_109 : decode cL_areStickings 109 = .ok (.iload 11, 2) := by decide +kernel
theorem dL_areStickings_111 : decode cL_areStickings 111 = .ok (.iload 10, 2) := by decide +kernel
theorem dL_areStickings_113 : decode cL_areStickings 113 = .ok (.ishl, 1) := by decide +kernel
theorem dL_areStickings_114 : decode cL_areStickings 114 = .ok (.ior, 1) := by decide +kernel
theorem dL_areStickings_115 : decode cL_areStickings 115 = .ok (.istore 8, 2) := by decide +kernel
theorem dL_areStickings_117 : decode cL_areStickings 117 = .ok (.iinc 10 1, 3) := by decide +kernel
theorem dL_areStickings_120 : decode cL_areStickings 120 = .ok (.goto (-81), 3) := by decide +kernel
theorem dL_areStickings_123 : decode cL_areStickings 123 = .ok (.iload 9, 2) := by decide +kernel
theorem dL_areStickings_125 : decode cL_areStickings 125 = .ok (.ifCond .eq 76, 3) := by decide +kernel
theorem dL_areStickings_128 : decode cL_areStickings 128 = .ok (.aload_n 0, 1) := by decide +kernel
theorem dL_areStickings_129 : decode cL_areStickings 129 = .ok (.iload 8, 2) := by decide +kernel
theorem dL_areStickings_131 : decode cL_areStickings 131 = .ok (.iconst 0, 1) := by decide +kernel
theorem dL_areStickings_132 : decode cL_areStickings 132 = .ok (.invokestatic 62, 3) := by decide +kernel
theorem dL_areStickings_135 : decode cL_areStickings 135 = .ok (.ifCond .eq 66, 3) := by decide +kernel
theorem dL_areStickings_138 : decode cL_areStickings 138 = .ok (.iinc 2 1, 3) := by decide +kernel
theorem dL_areStickings_141 : decode cL_areStickings 141 = .ok (.iload_n 3, 1) := by decide +kernel
theorem dL_areStickings_142 : decode cL_areStickings 142 = .ok (.aload_n 0, 1) := by decide +kernel
theorem dL_areStickings_143 : decode cL_areStickings 143 = .ok (.iload 8, 2) := by decide +kernel
theorem dL_areStickings_145 : decode cL_areStickings 145 = .ok (.iconst 1, 1) := by decide +kernel
theorem dL_areStickings_146 : decode cL_areStickings 146 = .ok (.invokestatic 62, 3) := by decide +kernel
theorem dL_areStickings_149 : decode cL_areStickings 149 = .ok (.ifCond .eq 7, 3) := by decide +kernel
theorem dL_areStickings_152 : decode cL_areStickings 152 = .ok (.iconst 1, 1) := by decide +kernel
theorem dL_areStickings_153 : decode cL_areStickings 153 = .ok (.goto 4, 3) := by decide +kernel
theorem dL_areStickings_156 : decode cL_areStickings 156 = .ok (.iconst 0, 1) := by decide +kernel
theorem dL_areStickings_157 : decode cL_areStickings 157 = .ok (.iadd, 1) := by decide +kernel
theorem dL_areStickings_158 : decode cL_areStickings 158 = .ok (.istore_n 3, 1) := by decide +kernel
theorem dL_areStickings_159 : decode cL_areStickings 159 = .ok (.iload 4, 2) := by decide +kernel
theorem dL_areStickings_161 : decode cL_areStickings 161 = .ok (.ifCond .ge 8, 3) := by decide +kernel
theorem dL_areStickings_164 : decode cL_areStickings 164 = .ok (.iload 8, 2) := by decide +kernel
theorem dL_areStickings_166 : decode cL_areStickings 166 = .ok (.goto 5, 3) := by decide +kernel
theorem dL_areStickings_169 : decode cL_areStickings 169 = .ok (.iload 4, 2) := by decide +kernel
theorem dL_areStickings_171 : decode cL_areStickings 171 = .ok (.istore 4, 2) := by decide +kernel
theorem dL_areStickings_173 : decode cL_areStickings 173 = .ok (.iload 5, 2) := by decide +kernel
theorem dL_areStickings_175 : decode cL_areStickings 175 = .ok (.ifCond .lt 14, 3) := by decide +kernel
theorem dL_areStickings_178 : decode cL_areStickings 178 = .ok (.aload_n 0, 1) := by decide +kernel
theorem dL_areStickings_179 : decode cL_areStickings 179 = .ok (.iload 8, 2) := by decide +kernel
theorem dL_areStickings_181 : decode cL_areStickings 181 = .ok (.invokestatic 66, 3) := by decide +kernel
theorem dL_areStickings_184 : decode cL_areStickings 184 = .ok (.iload 6, 2) := by decide +kernel
theorem dL_areStickings_186 : decode cL_areStickings 186 = .ok (.if_icmp .ge 15, 3) := by decide +kernel
theorem dL_areStickings_189 : decode cL_areStickings 189 = .ok (.iload 8, 2) := by decide +kernel
theorem dL_areStickings_191 : decode cL_areStickings 191 = .ok (.istore 5, 2) := by decide +kernel
theorem dL_areStickings_193 : decode cL_areStickings 193 = .ok (.aload_n 0, 1) := by decide +kernel
theorem dL_areStickings_194 : decode cL_areStickings 194 = .ok (.iload 8, 2) := by decide +kernel
theorem dL_areStickings_196 : decode cL_areStickings 196 = .ok (.invokestatic 66, 3) := by decide +kernel
theorem dL_areStickings_199 : decode cL_areStickings 199 = .ok (.istore 6, 2) := by decide +kernel
theorem dL_areStickings_201 : decode cL_areStickings 201 = .ok (.iinc 7 1, 3) := by decide +kernel
theorem dL_areStickings_204 : decode cL_areStickings 204 = .ok (.goto (-182), 3) := by decide +kernel
theorem dL_areStickings_207 : decode cL_areStickings 207 = .ok (.aload_n 0, 1) := by decide +kernel
theorem dL_areStickings_208 : decode cL_areStickings 208 = .ok (.iconst 0, 1) := by decide +kernel
theorem dL_areStickings_209 : decode cL_areStickings 209 = .ok (.iconst 0, 1) := by decide +kernel
theorem dL_areStickings_210 : decode cL_areStickings 210 = .ok (.invokevirtual 70, 3) := by decide +kernel
theorem dL_areStickings_213 : decode cL_areStickings 213 = .ok (.iload_n 2, 1) := by decide +kernel
theorem dL_areStickings_214 : decode cL_areStickings 214 = .ok (.if_icmp .ne 37, 3) := by decide +kernel
theorem dL_areStickings_217 : decode cL_areStickings 217 = .ok (.aload_n 0, 1) := by decide +kernel
theorem dL_areStickings_218 : decode cL_areStickings 218 = .ok (.iconst 0, 1) := by decide +kernel
theorem dL_areStickings_219 : decode cL_areStickings 219 = .ok (.iconst 1, 1) := by decide +kernel
theorem dL_areStickings_220 : decode cL_areStickings 220 = .ok (.invokevirtual 70, 3) := by decide +kernel
theorem dL_areStickings_223 : decode cL_areStickings 223 = .ok (.iload_n 2, 1) := by decide +kernel
theorem dL_areStickings_224 : decode cL_areStickings 224 = .ok (.if_icmp .ne 27, 3) := by decide +kernel
theorem dL_areStickings_227 : decode cL_areStickings 227 = .ok (.aload_n 0, 1) := by decide +kernel
theorem dL_areStickings_228 : decode cL_areStickings 228 = .ok (.iconst 1, 1) := by decide +kernel
theorem dL_areStickings_229 : decode cL_areStickings 229 = .ok (.iconst 0, 1) := by decide +kernel
theorem dL_areStickings_230 : decode cL_areStickings 230 = .ok (.invokevirtual 70, 3) := by decide +kernel
theorem dL_areStickings_233 : decode cL_areStickings 233 = .ok (.iload_n 3, 1) := by decide +kernel
theorem dL_areStickings_234 : decode cL_areStickings 234 = .ok (.if_icmp .ne 17, 3) := by decide +kernel
theorem dL_areStickings_237 : decode cL_areStickings 237 = .ok (.aload_n 0, 1) := by decide +kernel
theorem dL_areStickings_238 : decode cL_areStickings 238 = .ok (.iconst 1, 1) := by decide +kernel
theorem dL_areStickings_239 : decode cL_areStickings 239 = .ok (.iconst 1, 1) := by decide +kernel
theorem dL_areStickings_240 : decode cL_areStickings 240 = .ok (.invokevirtual 70, 3) := by decide +kernel
theorem dL_areStickings_243 : decode cL_areStickings 243 = .ok (.iload_n 3, 1) := by decide +kernel
theorem dL_areStickings_244 : decode cL_areStickings 244 = .ok (.if_icmp .ne 7, 3) := by decide +kernel
theorem dL_areStickings_247 : decode cL_areStickings 247 = .ok (.iconst 1, 1) := by decide +kernel
theorem dL_areStickings_248 : decode cL_areStickings 248 = .ok (.goto 4, 3) := by decide +kernel
theorem dL_areStickings_251 : decode cL_areStickings 251 = .ok (.iconst 0, 1) := by decide +kernel
theorem dL_areStickings_252 : decode cL_areStickings 252 = .ok (.istore 7, 2) := by decide +kernel
theorem dL_areStickings_254 : decode cL_areStickings 254 = .ok (.iconst 0, 1) := by decide +kernel
theorem dL_areStickings_255 : decode cL_areStickings 255 = .ok (.istore 8, 2) := by decide +kernel
theorem dL_areStickings_257 : decode cL_areStickings 257 = .ok (.iload 8, 2) := by decide +kernel
theorem dL_areStickings_259 : decode cL_areStickings 259 = .ok (.iload_n 1, 1) := by decide +kernel
theorem dL_areStickings_260 : decode cL_areStickings 260 = .ok (.if_icmp .ge 105, 3) := by decide +kernel
theorem dL_areStickings_263 : decode cL_areStickings 263 = .ok (.iload 7, 2) := by decide +kernel
theorem dL_areStickings_265 : decode cL_areStickings 265 = .ok (.ifCond .eq 100, 3) := by decide +kernel
theorem dL_areStickings_268 : decode cL_areStickings 268 = .ok (.aload_n 0, 1) := by decide +kernel
theorem dL_areStickings_269 : decode cL_areStickings 269 = .ok (.iload 8, 2) := by decide +kernel
theorem dL_areStickings_271 : decode cL_areStickings 271 = .ok (.iconst 0, 1) := by decide +kernel
theorem dL_areStickings_272 : decode cL_areStickings 272 = .ok (.invokevirtual 51, 3) := by decide +kernel
theorem dL_areStickings_275 : decode cL_areStickings 275 = .ok (.bipush (-4), 2) := by decide +kernel
theorem dL_areStickings_277 : decode cL_areStickings 277 = .ok (.if_icmp .eq 7, 3) := by decide +kernel
theorem dL_areStickings_280 : decode cL_areStickings 280 = .ok (.iconst 1, 1) := by decide +kernel
theorem dL_areStickings_281 : decode cL_areStickings 281 = .ok (.goto 4, 3) := by decide +kernel
theorem dL_areStickings_284 : decode cL_areStickings 284 = .ok (.iconst 0, 1) := by decide +kernel
theorem dL_areStickings_285 : decode cL_areStickings 285 = .ok (.istore 9, 2) := by decide +kernel
theorem dL_areStickings_287 : decode cL_areStickings 287 = .ok (.aload_n 0, 1) := by decide +kernel
theorem dL_areStickings_288 : decode cL_areStickings 288 = .ok (.iload 8, 2) := by decide +kernel
theorem dL_areStickings_290 : decode cL_areStickings 290 = .ok (.iconst 5, 1) := by decide +kernel
theorem dL_areStickings_291 : decode cL_areStickings 291 = .ok (.invokevirtual 51, 3) := by decide +kernel
theorem dL_areStickings_294 : decode cL_areStickings 294 = .ok (.iload 9, 2) := by decide +kernel
theorem dL_areStickings_296 : decode cL_areStickings 296 = .ok (.ifCond .eq 18, 3) := by decide +kernel
theorem dL_areStickings_299 : decode cL_areStickings 299 = .ok (.iload 4, 2) := by decide +kernel
theorem dL_areStickings_301 : decode cL_areStickings 301 = .ok (.ifCond .lt 13, 3) := by decide +kernel
theorem dL_areStickings_304 : decode cL_areStickings 304 = .ok (.iload 4, 2) := by decide +kernel
theorem dL_areStickings_306 : decode cL_areStickings 306 = .ok (.iload 8, 2) := by decide +kernel
theorem dL_areStickings_308 : decode cL_areStickings 308 = .ok (.ishr, 1) := by decide +kernel
theorem dL_areStickings_309 : decode cL_areStickings 309 = .ok (.iconst 1, 1) := by decide +kernel
theorem dL_areStickings_310 : decode cL_areStickings 310 = .ok (.iand, 1) := by decide +kernel
theorem dL_areStickings_311 : decode cL_areStickings 311 = .ok (.goto 5, 3) := by decide +kernel
theorem dL_areStickings_314 : decode cL_areStickings 314 = .ok (.bipush (-4), 2) := by decide +kernel
theorem dL_areStickings_316 : decode cL_areStickings 316 = .ok (.if_icmp .ne 40, 3) := by decide +kernel
theorem dL_areStickings_319 : decode cL_areStickings 319 = .ok (.aload_n 0, 1) := by decide +kernel
theorem dL_areStickings_320 : decode cL_areStickings 320 = .ok (.iload 8, 2) := by decide +kernel
theorem dL_areStickings_322 : decode cL_areStickings 322 = .ok (.bipush 6, 2) := by decide +kernel
theorem dL_areStickings_324 : decode cL_areStickings 324 = .ok (.invokevirtual 51, 3) := by decide +kernel
theorem dL_areStickings_327 : decode cL_areStickings 327 = .ok (.iload 9, 2) := by decide +kernel
theorem dL_areStickings_329 : decode cL_areStickings 329 = .ok (.ifCond .eq 18, 3) := by decide +kernel
theorem dL_areStickings_332 : decode cL_areStickings 332 = .ok (.iload 5, 2) := by decide +kernel
theorem dL_areStickings_334 : decode cL_areStickings 334 = .ok (.ifCond .lt 13, 3) := by decide +kernel
theorem dL_areStickings_337 : decode cL_areStickings 337 = .ok (.iload 5, 2) := by decide +kernel
theorem dL_areStickings_339 : decode cL_areStickings 339 = .ok (.iload 8, 2) := by decide +kernel
theorem dL_areStickings_341 : decode cL_areStickings 341 = .ok (.ishr, 1) := by decide +kernel
theorem dL_areStickings_342 : decode cL_areStickings 342 = .ok (.iconst 1, 1) := by decide +kernel
theorem dL_areStickings_343 : decode cL_areStickings 343 = .ok (.iand, 1) := by decide +kernel
theorem dL_areStickings_344 : decode cL_areStickings 344 = .ok (.goto 5, 3) := by decide +kernel
theorem dL_areStickings_347 : decode cL_areStickings 347 = .ok (.bipush (-4), 2) := by decide +kernel
theorem dL_areStickings_349 : decode cL_areStickings 349 = .ok (.if_icmp .ne 7, 3) := by decide +kernel
theorem dL_areStickings_352 : decode cL_areStickings 352 = .ok (.iconst 1, 1) := by decide +kernel
theorem dL_areStickings_353 : decode cL_areStickings 353 = .ok (.goto 4, 3) := by decide +kernel
theorem dL_areStickings_356 : decode cL_areStickings 356 = .ok (.iconst 0, 1) := by decide +kernel
theorem dL_areStickings_357 : decode cL_areStickings 357 = .ok (.istore 7, 2) := by decide +kernel
theorem dL_areStickings_359 : decode cL_areStickings 359 = .ok (.iinc 8 1, 3) := by decide +kernel
theorem dL_areStickings_362 : decode cL_areStickings 362 = .ok (.goto (-105), 3) := by decide +kernel
theorem dL_areStickings_365 : decode cL_areStickings 365 = .ok (.iconst 0, 1) := by decide +kernel
theorem dL_areStickings_366 : decode cL_areStickings 366 = .ok (.istore 8, 2) := by decide +kernel
theorem dL_areStickings_368 : decode cL_areStickings 368 = .ok (.iconst 0, 1) := by decide +kernel
theorem dL_areStickings_369 : decode cL_areStickings 369 = .ok (.istore 9, 2) := by decide +kernel
theorem dL_areStickings_371 : decode cL_areStickings 371 = .ok (.iload 9, 2) := by decide +kernel
theorem dL_areStickings_373 : decode cL_areStickings 373 = .ok (.iload_n 1, 1) := by decide +kernel
theorem dL_areStickings_374 : decode cL_areStickings 374 = .ok (.if_icmp .ge 123, 3) := by decide +kernel
theorem dL_areStickings_377 : decode cL_areStickings 377 = .ok (.iload 5, 2) := by decide +kernel
theorem dL_areStickings_379 : decode cL_areStickings 379 = .ok (.ifCond .lt 118, 3) := by decide +kernel
theorem dL_areStickings_382 : decode cL_areStickings 382 = .ok (.aload_n 0, 1) := by decide +kernel
theorem dL_areStickings_383 : decode cL_areStickings 383 = .ok (.iload 9, 2) := by decide +kernel
theorem dL_areStickings_385 : decode cL_areStickings 385 = .ok (.iconst 2, 1) := by decide +kernel
theorem dL_areStickings_386 : decode cL_areStickings 386 = .ok (.invokevirtual 51, 3) := by decide +kernel
theorem dL_areStickings_389 : decode cL_areStickings 389 = .ok (.istore 10, 2) := by decide +kernel
theorem dL_areStickings_391 : decode cL_areStickings 391 = .ok (.iload 10, 2) := by decide +kernel
theorem dL_areStickings_393 : decode cL_areStickings 393 = .ok (.ifCond .ne 7, 3) := by decide +kernel
theorem dL_areStickings_396 : decode cL_areStickings 396 = .ok (.iconst 0, 1) := by decide +kernel
theorem dL_areStickings_397 : decode cL_areStickings 397 = .ok (.goto 14, 3) := by decide +kernel
theorem dL_areStickings_400 : decode cL_areStickings 400 = .ok (.iload 10, 2) := by decide +kernel
theorem dL_areStickings_402 : decode cL_areStickings 402 = .ok (.iconst 2, 1) := by decide +kernel
theorem dL_areStickings_403 : decode cL_areStickings 403 = .ok (.if_icmp .ne 7, 3) := by decide +kernel
theorem dL_areStickings_406 : decode cL_areStickings 406 = .ok (.iconst 2, 1) := by decide +kernel
theorem dL_areStickings_407 : decode cL_areStickings 407 = .ok (.goto 4, 3) := by decide +kernel
theorem dL_areStickings_410 : decode cL_areStickings 410 = .ok (.iconst 1, 1) := by decide +kernel
theorem dL_areStickings_411 : decode cL_areStickings 411 = .ok (.istore 11, 2) := by decide +kernel
theorem dL_areStickings_413 : decode cL_areStickings 413 = .ok (.iload 5, 2) := by decide +kernel
theorem dL_areStickings_415 : decode cL_areStickings 415 = .ok (.iload 9, 2) := by decide +kernel
theorem dL_areStickings_417 : decode cL_areStickings 417 = .ok (.ishr, 1) := by decide +kernel
theorem dL_areStickings_418 : decode cL_areStickings 418 = .ok (.iconst 1, 1) := by decide +kernel
theorem dL_areStickings_419 : decode cL_areStickings 419 = .ok (.iand, 1) := by decide +kernel
theorem dL_areStickings_420 : decode cL_areStickings 420 = .ok (.ifCond .ne 7, 3) := by decide +kernel
theorem dL_areStickings_423 : decode cL_areStickings 423 = .ok (.iconst 1, 1) := by decide +kernel
theorem dL_areStickings_424 : decode cL_areStickings 424 = .ok (.goto 4, 3) := by decide +kernel
theorem dL_areStickings_427 : decode cL_areStickings 427 = .ok (.iconst 0, 1) := by decide +kernel
theorem dL_areStickings_428 : decode cL_areStickings 428 = .ok (.istore 12, 2) := by decide +kernel
theorem dL_areStickings_430 : decode cL_areStickings 430 = .ok (.iload 8, 2) := by decide +kernel
theorem dL_areStickings_432 : decode cL_areStickings 432 = .ok (.aload_n 0, 1) := by decide +kernel
theorem dL_areStickings_433 : decode cL_areStickings 433 = .ok (.iload 9, 2) := by decide +kernel
theorem dL_areStickings_435 : decode cL_areStickings 435 = .ok (.iconst 0, 1) := by decide +kernel
theorem dL_areStickings_436 : decode cL_areStickings 436 = .ok (.invokevirtual 51, 3) := by decide +kernel
theorem dL_areStickings_439 : decode cL_areStickings 439 = .ok (.bipush (-4), 2) := by decide +kernel
theorem dL_areStickings_441 : decode cL_areStickings 441 = .ok (.if_icmp .ne 7, 3) := by decide +kernel
theorem dL_areStickings_444 : decode cL_areStickings 444 = .ok (.iconst 0, 1) := by decide +kernel
theorem dL_areStickings_445 : decode cL_areStickings 445 = .ok (.goto 43, 3) := by decide +kernel
theorem dL_areStickings_448 : decode cL_areStickings 448 = .ok (.iload 12, 2) := by decide +kernel
theorem dL_areStickings_450 : decode cL_areStickings 450 = .ok (.ifCond .eq 26, 3) := by decide +kernel
theorem dL_areStickings_453 : decode cL_areStickings 453 = .ok (.aload_n 0, 1) := by decide +kernel
theorem dL_areStickings_454 : decode cL_areStickings 454 = .ok (.iload 9, 2) := by decide +kernel
theorem dL_areStickings_456 : decode cL_areStickings 456 = .ok (.iconst 4, 1) := by decide +kernel
theorem dL_areStickings_457 : decode cL_areStickings 457 = .ok (.invokevirtual 51, 3) := by decide +kernel
theorem dL_areStickings_460 : decode cL_areStickings 460 = .ok (.iload 10, 2) := by decide +kernel
theorem dL_areStickings_462 : decode cL_areStickings 462 = .ok (.iconst 3, 1) := by decide +kernel
theorem dL_areStickings_463 : decode cL_areStickings 463 = .ok (.if_icmp .ge 8, 3) := by decide +kernel
theorem dL_areStickings_466 : decode cL_areStickings 466 = .ok (.iload 11, 2) := by decide +kernel
theorem dL_areStickings_468 : decode cL_areStickings 468 = .ok (.goto 4, 3) := by decide +kernel
theorem dL_areStickings_471 : decode cL_areStickings 471 = .ok (.iconst 0, 1) := by decide +kernel
theorem dL_areStickings_472 : decode cL_areStickings 472 = .ok (.isub, 1) := by decide +kernel
theorem dL_areStickings_473 : decode cL_areStickings 473 = .ok (.goto 15, 3) := by decide +kernel
theorem dL_areStickings_476 : decode cL_areStickings 476 = .ok (.iload 10, 2) := by decide +kernel
theorem dL_areStickings_478 : decode cL_areStickings 478 = .ok (.iconst 3, 1) := by decide +kernel
theorem dL_areStickings_479 : decode cL_areStickings 479 = .ok (.if_icmp .ge 8, 3) := by decide +kernel
theorem dL_areStickings_482 : decode cL_areStickings 482 = .ok (.iload 11, 2) := by decide +kernel
theorem dL_areStickings_484 : decode cL_areStickings 484 = .ok (.goto 4, 3) := by decide +kernel
theorem dL_areStickings_487 : decode cL_areStickings 487 = .ok (.iconst 0, 1) := by decide +kernel
theorem dL_areStickings_488 : decode cL_areStickings 488 = .ok (.iadd, 1) := by decide +kernel
theorem dL_areStickings_489 : decode cL_areStickings 489 = .ok (.istore 8, 2) := by decide +kernel
theorem dL_areStickings_491 : decode cL_areStickings 491 = .ok (.iinc 9 1, 3) := by decide +kernel
theorem dL_areStickings_494 : decode cL_areStickings 494 = .ok (.goto (-123), 3) := by decide +kernel
theorem dL_areStickings_497 : decode cL_areStickings 497 = .ok (.iload 7, 2) := by decide +kernel
theorem dL_areStickings_499 : decode cL_areStickings 499 = .ok (.ifCond .eq 86, 3) := by decide +kernel
theorem dL_areStickings_502 : decode cL_areStickings 502 = .ok (.aload_n 0, 1) := by decide +kernel
theorem dL_areStickings_503 : decode cL_areStickings 503 = .ok (.invokevirtual 74, 3) := by decide +kernel
theorem dL_areStickings_506 : decode cL_areStickings 506 = .ok (.aload_n 0, 1) := by decide +kernel
theorem dL_areStickings_507 : decode cL_areStickings 507 = .ok (.bipush 11, 2) := by decide +kernel
theorem dL_areStickings_509 : decode cL_areStickings 509 = .ok (.invokevirtual 9, 3) := by decide +kernel
theorem dL_areStickings_512 : decode cL_areStickings 512 = .ok (.if_icmp .lt 7, 3) := by decide +kernel
theorem dL_areStickings_515 : decode cL_areStickings 515 = .ok (.iconst 1, 1) := by decide +kernel
theorem dL_areStickings_516 : decode cL_areStickings 516 = .ok (.goto 4, 3) := by decide +kernel
theorem dL_areStickings_519 : decode cL_areStickings 519 = .ok (.iconst 0, 1) := by decide +kernel
theorem dL_areStickings_520 : decode cL_areStickings 520 = .ok (.iload_n 2, 1) := by decide +kernel
theorem dL_areStickings_521 : decode cL_areStickings 521 = .ok (.ifCond .le 7, 3) := by decide +kernel
theorem dL_areStickings_524 : decode cL_areStickings 524 = .ok (.iconst 1, 1) := by decide +kernel
theorem dL_areStickings_525 : decode cL_areStickings 525 = .ok (.goto 4, 3) := by decide +kernel
theorem dL_areStickings_528 : decode cL_areStickings 528 = .ok (.iconst 0, 1) := by decide +kernel
theorem dL_areStickings_529 : decode cL_areStickings 529 = .ok (.if_icmp .ne 56, 3) := by decide +kernel
theorem dL_areStickings_532 : decode cL_areStickings 532 = .ok (.iload 5, 2) := by decide +kernel
theorem dL_areStickings_534 : decode cL_areStickings 534 = .ok (.ifCond .lt 12, 3) := by decide +kernel
theorem dL_areStickings_537 : decode cL_areStickings 537 = .ok (.aload_n 0, 1) := by decide +kernel
theorem dL_areStickings_538 : decode cL_areStickings 538 = .ok (.bipush 10, 2) := by decide +kernel
theorem dL_areStickings_540 : decode cL_areStickings 540 = .ok (.invokevirtual 9, 3) := by decide +kernel
theorem dL_areStickings_543 : decode cL_areStickings 543 = .ok (.ifCond .ne 18, 3) := by decide +kernel
theorem dL_areStickings_546 : decode cL_areStickings 546 = .ok (.aload_n 0, 1) := by decide +kernel
theorem dL_areStickings_547 : decode cL_areStickings 547 = .ok (.iconst 1, 1) := by decide +kernel
theorem dL_areStickings_548 : decode cL_areStickings 548 = .ok (.invokevirtual 77, 3) := by decide +kernel
theorem dL_areStickings_551 : decode cL_areStickings 551 = .ok (.ldc2_w 81, 3) := by decide +kernel
theorem dL_areStickings_554 : decode cL_areStickings 554 = .ok (.dcmp .l, 1) := by decide +kernel
theorem dL_areStickings_555 : decode cL_areStickings 555 = .ok (.ifCond .ne 30, 3) := by decide +kernel
theorem dL_areStickings_558 : decode cL_areStickings 558 = .ok (.goto 23, 3) := by decide +kernel
theorem dL_areStickings_561 : decode cL_areStickings 561 = .ok (.aload_n 0, 1) := by decide +kernel
theorem dL_areStickings_562 : decode cL_areStickings 562 = .ok (.iconst 1, 1) := by decide +kernel
theorem dL_areStickings_563 : decode cL_areStickings 563 = .ok (.invokevirtual 77, 3) := by decide +kernel
theorem dL_areStickings_566 : decode cL_areStickings 566 = .ok (.iload 8, 2) := by decide +kernel
theorem dL_areStickings_568 : decode cL_areStickings 568 = .ok (.i2d, 1) := by decide +kernel
theorem dL_areStickings_569 : decode cL_areStickings 569 = .ok (.aload_n 0, 1) := by decide +kernel
theorem dL_areStickings_570 : decode cL_areStickings 570 = .ok (.bipush 10, 2) := by decide +kernel
theorem dL_areStickings_572 : decode cL_areStickings 572 = .ok (.invokevirtual 9, 3) := by decide +kernel
theorem dL_areStickings_575 : decode cL_areStickings 575 = .ok (.i2d, 1) := by decide +kernel
theorem dL_areStickings_576 : decode cL_areStickings 576 = .ok (.ddiv, 1) := by decide +kernel
theorem dL_areStickings_577 : decode cL_areStickings 577 = .ok (.dcmp .l, 1) := by decide +kernel
theorem dL_areStickings_578 : decode cL_areStickings 578 = .ok (.ifCond .ne 7, 3) := by decide +kernel
theorem dL_areStickings_581 : decode cL_areStickings 581 = .ok (.iconst 1, 1) := by decide +kernel
theorem dL_areStickings_582 : decode cL_areStickings 582 = .ok (.goto 4, 3) := by decide +kernel
theorem dL_areStickings_585 : decode cL_areStickings 585 = .ok (.iconst 0, 1) := by decide +kernel
theorem dL_areStickings_586 : decode cL_areStickings 586 = .ok (.ireturn, 1) := by decide +kernel
theorem dL_holds_0 : decode cL_holds 0 = .ok (.aload_n 0, 1) := by decide +kernel
theorem dL_holds_1 : decode cL_holds 1 = .ok (.iconst 0, 1) := by decide +kernel
theorem dL_holds_2 : decode cL_holds 2 = .ok (.invokevirtual 9, 3) := by decide +kernel
theorem dL_holds_5 : decode cL_holds 5 = .ok (.istore_n 1, 1) := by decide +kernel
theorem dL_holds_6 : decode cL_holds 6 = .ok (.iconst 0, 1) := by decide +kernel
theorem dL_holds_7 : decode cL_holds 7 = .ok (.istore_n 2, 1) := by decide +kernel
theorem dL_holds_8 : decode cL_holds 8 = .ok (.iconst 0, 1) := by decide +kernel
theorem dL_holds_9 : decode cL_holds 9 = .ok (.istore_n 3, 1) := by decide +kernel
theorem dL_holds_10 : decode cL_holds 10 = .ok (.iconst 0, 1) := by decide +kernel
theorem dL_holds_11 : decode cL_holds 11 = .ok (.istore 4, 2) := by decide +kernel
theorem dL_holds_13 : decode cL_holds 13 = .ok (.iconst 0, 1) := by decide +kernel
theorem dL_holds_14 : decode cL_holds 14 = .ok (.istore 5, 2) := by decide +kernel
theorem dL_holds_16 : decode cL_holds 16 = .ok (.aload_n 0, 1) := by decide +kernel
theorem dL_holds_17 : decode cL_holds 17 = .ok (.iload_n 1, 1) := by decide +kernel
theorem dL_holds_18 : decode cL_holds 18 = .ok (.iconst 0, 1) := by decide +kernel
theorem dL_holds_19 : decode cL_holds 19 = .ok (.invokevirtual 51, 3) := by decide +kernel
theorem dL_holds_22 : decode cL_holds 22 = .ok (.iconst (-1), 1) := by decide +kernel
theorem dL_holds_23 : decode cL_holds 23 = .ok (.if_icmp .ne 30, 3) := by decide +kernel
theorem dL_holds_26 : decode cL_holds 26 = .ok (.aload_n 0, 1) := by decide +kernel
theorem dL_holds_27 : decode cL_holds 27 = .ok (.bipush (-3), 2) := by decide +kernel
theorem dL_holds_29 : decode cL_holds 29 = .ok (.invokevirtual 83, 3) := by decide +kernel
theorem dL_holds_32 : decode cL_holds 32 = .ok (.iconst (-1), 1) := by decide +kernel
theorem dL_holds_33 : decode cL_holds 33 = .ok (.if_icmp .ne 20, 3) := by decide +kernel
theorem dL_holds_36 : decode cL_holds 36 = .ok (.aload_n 0, 1) := by decide +kernel
theorem dL_holds_37 : decode cL_holds 37 = .ok (.iconst 4, 1) := by decide +kernel
theorem dL_holds_38 : decode cL_holds 38 = .ok (.iload_n 1, 1) := by decide +kernel
theorem dL_holds_39 : decode cL_holds 39 = .ok (.imul, 1) := by decide +kernel
theorem dL_holds_40 : decode cL_holds 40 = .ok (.iconst 1, 1) := by decide +kernel
theorem dL_holds_41 : decode cL_holds 41 = .ok (.iadd, 1) := by decide +kernel
theorem dL_holds_42 : decode cL_holds 42 = .ok (.invokevirtual 83, 3) := by decide +kernel
theorem dL_holds_45 : decode cL_holds 45 = .ok (.iconst (-1), 1) := by decide +kernel
theorem dL_holds_46 : decode cL_holds 46 = .ok (.if_icmp .ne 7, 3) := by decide +kernel
theorem dL_holds_49 : decode cL_holds 49 = .ok (.iconst 1, 1) := by decide +kernel
theorem dL_holds_50 : decode cL_holds 50 = .ok (.goto 4, 3) := by decide +kernel
theorem dL_holds_53 : decode cL_holds 53 = .ok (.iconst 0, 1) := by decide +kernel
theorem dL_holds_54 : decode cL_holds 54 = .ok (.istore 6, 2) := by decide +kernel
theorem dL_holds_56 : decode cL_holds 56 = .ok (.iconst 0, 1) := by decide +kernel
theorem dL_holds_57 : decode cL_holds 57 = .ok (.istore 7, 2) := by decide +kernel
theorem dL_holds_59 : decode cL_holds 59 = .ok (.iload 7, 2) := by decide +kernel
theorem dL_holds_61 : decode cL_holds 61 = .ok (.iload_n 1, 1) := by decide +kernel
theorem dL_holds_62 : decode cL_holds 62 = .ok (.if_icmp .ge 167, 3) := by decide +kernel
theorem dL_holds_65 : decode cL_holds 65 = .ok (.iload 6, 2) := by decide +kernel
theorem dL_holds_67 : decode cL_holds 67 = .ok (.ifCond .eq 162, 3) := by decide +kernel
theorem dL_holds_70 : decode cL_holds 70 = .ok (.aload_n 0, 1) := by decide +kernel
theorem dL_holds_71 : decode cL_holds 71 = .ok (.iload 7, 2) := by decide +kernel
theorem dL_holds_73 : decode cL_holds 73 = .ok (.iconst 2, 1) := by decide +kernel
theorem dL_holds_74 : decode cL_holds 74 = .ok (.invokevirtual 51, 3) := by decide +kernel
theorem dL_holds_77 : decode cL_holds 77 = .ok (.istore 8, 2) := by decide +kernel
theorem dL_holds_79 : decode cL_holds 79 = .ok (.iload 8, 2) := by decide +kernel
theorem dL_holds_81 : decode cL_holds 81 = .ok (.ifCond .ne 7, 3) := by decide +kernel
theorem dL_holds_84 : decode cL_holds 84 = .ok (.iconst 0, 1) := by decide +kernel
theorem dL_holds_85 : decode cL_holds 85 = .ok (.goto 14, 3) := by decide +kernel
theorem dL_holds_88 : decode cL_holds 88 = .ok (.iload 8, 2) := by decide +kernel
theorem dL_holds_90 : decode cL_holds 90 = .ok (.iconst 2, 1) := by decide +kernel
theorem dL_holds_91 : decode cL_holds 91 = .ok (.if_icmp .ne 7, 3) := by decide +kernel
theorem dL_holds_94 : decode cL_holds 94 = .ok (.iconst 2, 1) := by decide +kernel
theorem dL_holds_95 : decode cL_holds 95 = .ok (.goto 4, 3) := by decide +kernel
theorem dL_holds_98 : decode cL_holds 98 = .ok (.iconst 1, 1) := by decide +kernel
theorem dL_holds_99 : decode cL_holds 99 = .ok (.istore 9, 2) := by decide +kernel
theorem dL_holds_101 : decode cL_holds 101 = .ok (.aload_n 0, 1) := by decide +kernel
theorem dL_holds_102 : decode cL_holds 102 = .ok (.iload 7, 2) := by decide +kernel
theorem dL_holds_104 : decode cL_holds 104 = .ok (.iconst 0, 1) := by decide +kernel
theorem dL_holds_105 : decode cL_holds 105 = .ok (.invokevirtual 51, 3) := by decide +kernel
theorem dL_holds_108 : decode cL_holds 108 = .ok (.bipush (-4), 2) := by decide +kernel
theorem dL_holds_110 : decode cL_holds 110 = .ok (.if_icmp .ne 7, 3) := by decide +kernel
theorem dL_holds_113 : decode cL_holds 113 = .ok (.iconst 1, 1) := by decide +kernel
theorem dL_holds_114 : decode cL_holds 114 = .ok (.goto 4, 3) := by decide +kernel
theorem dL_holds_117 : decode cL_holds 117 = .ok (.iconst 0, 1) := by decide +kernel
theorem dL_holds_118 : decode cL_holds 118 = .ok (.istore 10, 2) := by decide +kernel
theorem dL_holds_120 : decode cL_holds 120 = .ok (.iload_n 2, 1) := by decide +kernel
theorem dL_holds_121 : decode cL_holds 121 = .ok (.aload_n 0, 1) := by decide +kernel
theorem dL_holds_122 : decode cL_holds 122 = .ok (.iload 7, 2) := by decide +kernel
theorem dL_holds_124 : decode cL_holds 124 = .ok (.iconst 3, 1) := by decide +kernel
theorem dL_holds_125 : decode cL_holds 125 = .ok (.invokevirtual 51, 3) := by decide +kernel
theorem dL_holds_128 : decode cL_holds 128 = .ok (.iadd, 1) := by decide +kernel
theorem dL_holds_129 : decode cL_holds 129 = .ok (.istore_n 2, 1) := by decide +kernel
theorem dL_holds_130 : decode cL_holds 130 = .ok (.iload_n 3, 1) := by decide +kernel
theorem dL_holds_131 : decode cL_holds 131 = .ok (.aload_n 0, 1) := by decide +kernel
theorem dL_holds_132 : decode cL_holds 132 = .ok (.iload 7, 2) := by decide +kernel
theorem dL_holds_134 : decode cL_holds 134 = .ok (.iconst 4, 1) := by decide +kernel
theorem dL_holds_135 : decode cL_holds 135 = .ok (.invokevirtual 51, 3) := by decide +kernel
theorem dL_holds_138 : decode cL_holds 138 = .ok (.iadd, 1) := by decide +kernel
theorem dL_holds_139 : decode cL_holds 139 = .ok (.istore_n 3, 1) := by decide +kernel
theorem dL_holds_140 : decode cL_holds 140 = .ok (.iload 5, 2) := by decide +kernel
theorem dL_holds_142 : decode cL_holds 142 = .ok (.aload_n 0, 1) := by decide +kernel
theorem dL_holds_143 : decode cL_holds 143 = .ok (.iload 7, 2) := by decide +kernel
theorem dL_holds_145 : decode cL_holds 145 = .ok (.iconst 1, 1) := by decide +kernel
theorem dL_holds_146 : decode cL_holds 146 = .ok (.invokevirtual 51, 3) := by decide +kernel
theorem dL_holds_149 : decode cL_holds 149 = .ok (.iadd, 1) := by decide +kernel
theorem dL_holds_150 : decode cL_holds 150 = .ok (.istore 5, 2) := by decide +kernel
theorem dL_holds_152 : decode cL_holds 152 = .ok (.aload_n 0, 1) := by decide +kernel
theorem dL_holds_153 : decode cL_holds 153 = .ok (.iload 7, 2) := by decide +kernel
theorem dL_holds_155 : decode cL_holds 155 = .ok (.iconst 3, 1) := by decide +kernel
theorem dL_holds_156 : decode cL_holds 156 = .ok (.invokevirtual 51, 3) := by decide +kernel
theorem dL_holds_159 : decode cL_holds 159 = .ok (.iload 10, 2) := by decide +kernel
theorem dL_holds_161 : decode cL_holds 161 = .ok (.ifCond .eq 7, 3) := by decide +kernel
theorem dL_holds_164 : decode cL_holds 164 = .ok (.iconst 0, 1) := by decide +kernel
theorem dL_holds_165 : decode cL_holds 165 = .ok (.goto 7, 3) := by decide +kernel
theorem dL_holds_168 : decode cL_holds 168 = .ok (.iconst 1, 1) := by decide +kernel
theorem dL_holds_169 : decode cL_holds 169 = .ok (.iload 9, 2) := by decide +kernel
theorem dL_holds_171 : decode cL_holds 171 = .ok (.iadd, 1) := by decide +kernel
theorem dL_holds_172 : decode cL_holds 172 = .ok (.if_icmp .ne 48, 3) := by decide +kernel
theorem dL_holds_175 : decode cL_holds 175 = .ok (.aload_n 0, 1) := by decide +kernel
theorem dL_holds_176 : decode cL_holds 176 = .ok (.iload 7, 2) := by decide +kernel
theorem dL_holds_178 : decode cL_holds 178 = .ok (.iconst 4, 1) := by decide +kernel
theorem dL_holds_179 : decode cL_holds 179 = .ok (.invokevirtual 51, 3) := by decide +kernel
theorem dL_holds_182 : decode cL_holds 182 = .ok (.iload 10, 2) := by decide +kernel
theorem dL_holds_184 : decode cL_holds 184 = .ok (.ifCond .eq 7, 3) := by decide +kernel
theorem dL_holds_187 : decode cL_holds 187 = .ok (.iconst 0, 1) := by decide +kernel
theorem dL_holds_188 : decode cL_holds 188 = .ok (.goto 15, 3) := by decide +kernel
theorem dL_holds_191 : decode cL_holds 191 = .ok (.iconst 2, 1) := by decide +kernel
theorem dL_holds_192 : decode cL_holds 192 = .ok (.aload_n 0, 1) := by decide +kernel
theorem dL_holds_193 : decode cL_holds 193 = .ok (.iload 7, 2) := by decide +kernel
theorem dL_holds_195 : decode cL_holds 195 = .ok (.iconst 1, 1) := by decide +kernel
theorem dL_holds_196 : decode cL_holds 196 = .ok (.invokevirtual 51, 3) := by decide +kernel
theorem dL_holds_199 : decode cL_holds 199 = .ok (.iadd, 1) := by decide +kernel
theorem dL_holds_200 : decode cL_holds 200 = .ok (.iload 9, 2) := by decide +kernel
theorem dL_holds_202 : decode cL_holds 202 = .ok (.iadd, 1) := by decide +kernel
theorem dL_holds_203 : decode cL_holds 203 = .ok (.if_icmp .ne 17, 3) := by decide +kernel
theorem dL_holds_206 : decode cL_holds 206 = .ok (.iload 10, 2) := by decide +kernel
theorem dL_holds_208 : decode cL_holds 208 = .ok (.ifCond .eq 8, 3) := by decide +kernel
theorem dL_holds_211 : decode cL_holds 211 = .ok (.iload 8, 2) := by decide +kernel
theorem dL_holds_213 : decode cL_holds 213 = .ok (.ifCond .ne 7, 3) := by decide +kernel
theorem dL_holds_216 : decode cL_holds 216 = .ok (.iconst 1, 1) := by decide +kernel
theorem dL_holds_217 : decode cL_holds 217 = .ok (.goto 4, 3) := by decide +kernel
theorem dL_holds_220 : decode cL_holds 220 = .ok (.iconst 0, 1) := by decide +kernel
theorem dL_holds_221 : decode cL_holds 221 = .ok (.istore 6, 2) := by decide +kernel
theorem dL_holds_223 : decode cL_holds 223 = .ok (.iinc 7 1, 3) := by decide +kernel
theorem dL_holds_226 : decode cL_holds 226 = .ok (.goto (-167), 3) := by decide +kernel
theorem dL_holds_229 : decode cL_holds 229 = .ok (.bipush (-2), 2) := by decide +kernel
theorem dL_holds_231 : decode cL_holds 231 = .ok (.istore 7, 2) := by decide +kernel
theorem dL_holds_233 : decode cL_holds 233 = .ok (.iload 7, 2) := by decide +kernel
theorem dL_holds_235 : decode cL_holds 235 = .ok (.iconst 4, 1) := by decide +kernel
theorem dL_holds_236 : decode cL_holds 236 = .ok (.iload_n 1, 1) := by decide +kernel
theorem dL_holds_237 : decode cL_holds 237 = .ok (.imul, 1) := by decide +kernel
theorem dL_holds_238 : decode cL_holds 238 = .ok (.if_icmp .gt 20, 3) := by decide +kernel
theorem dL_holds_241 : decode cL_holds 241 = .ok (.iload 4, 2) := by decide +kernel
theorem dL_holds_243 : decode cL_holds 243 = .ok (.aload_n 0, 1) := by decide +kernel
theorem dL_holds_244 : decode cL_holds 244 = .ok (.iload 7, 2) := by decide +kernel
theorem dL_holds_246 : decode cL_holds 246 = .ok (.invokevirtual 83, 3) := by decide +kernel
theorem dL_holds_249 : decode cL_holds 249 = .ok (.iadd, 1) := by decide +kernel
theorem dL_holds_250 : decode cL_holds 250 = .ok (.istore 4, 2) := by decide +kernel
theorem dL_holds_252 : decode cL_holds 252 = .ok (.iinc 7 1, 3) := by decide +kernel
theorem dL_holds_255 : decode cL_holds 255 = .ok (.goto (-22), 3) := by decide +kernel
theorem dL_holds_258 : decode cL_holds 258 = .ok (.iconst 0, 1) := by decide +kernel
theorem dL_holds_259 : decode cL_holds 259 = .ok (.istore 7, 2) := by decide +kernel
theorem dL_holds_261 : decode cL_holds 261 = .ok (.aload_n 0, 1) := by decide +kernel
theorem dL_holds_262 : decode cL_holds 262 = .ok (.iload 7, 2) := by decide +kernel
theorem dL_holds_264 : decode cL_holds 264 = .ok (.invokevirtual 86, 3) := by decide +kernel
theorem dL_holds_267 : decode cL_holds 267 = .ok (.ifCond .lt 9, 3) := by decide +kernel
theorem dL_holds_270 : decode cL_holds 270 = .ok (.iinc 7 1, 3) := by decide +kernel
theorem dL_holds_273 : decode cL_holds 273 = .ok (.goto (-12), 3) := by decide +kernel
theorem dL_holds_276 : decode cL_holds 276 = .ok (.iload 6, 2) := by decide +kernel
theorem dL_holds_278 : decode cL_holds 278 = .ok (.ifCond .eq 81, 3) := by decide +kernel
theorem dL_holds_281 : decode cL_holds 281 = .ok (.iload_n 2, 1) := by decide +kernel
theorem dL_holds_282 : decode cL_holds 282 = .ok (.aload_n 0, 1) := by decide +kernel
theorem dL_holds_283 : decode cL_holds 283 = .ok (.bipush 9, 2) := by decide +kernel
theorem dL_holds_285 : decode cL_holds 285 = .ok (.invokevirtual 9, 3) := by decide +kernel
theorem dL_holds_288 : decode cL_holds 288 = .ok (.if_icmp .ne 71, 3) := by decide +kernel
theorem dL_holds_291 : decode cL_holds 291 = .ok (.iload_n 3, 1) := by decide +kernel
theorem dL_holds_292 : decode cL_holds 292 = .ok (.aload_n 0, 1) := by decide +kernel
theorem dL_holds_293 : decode cL_holds 293 = .ok (.bipush 10, 2) := by decide +kernel
theorem dL_holds_295 : decode cL_holds 295 = .ok (.invokevirtual 9, 3) := by decide +kernel
theorem dL_holds_298 : decode cL_holds 298 = .ok (.if_icmp .ne 61, 3) := by decide +kernel
theorem dL_holds_301 : decode cL_holds 301 = .ok (.iload 4, 2) := by decide +kernel
theorem dL_holds_303 : decode cL_holds 303 = .ok (.iload_n 3, 1) := by decide +kernel
theorem dL_holds_304 : decode cL_holds 304 = .ok (.if_icmp .ne 55, 3) := by decide +kernel
theorem dL_holds_307 : decode cL_holds 307 = .ok (.iload 5, 2) := by decide +kernel
theorem dL_holds_309 : decode cL_holds 309 = .ok (.aload_n 0, 1) := by decide +kernel
theorem dL_holds_310 : decode cL_holds 310 = .ok (.iconst 5, 1) := by decide +kernel
theorem dL_holds_311 : decode cL_holds 311 = .ok (.invokevirtual 9, 3) := by decide +kernel
theorem dL_holds_314 : decode cL_holds 314 = .ok (.if_icmp .ne 45, 3) := by decide +kernel
theorem dL_holds_317 : decode cL_holds 317 = .ok (.aload_n 0, 1) := by decide +kernel
theorem dL_holds_318 : decode cL_holds 318 = .ok (.iconst 1, 1) := by decide +kernel
theorem dL_holds_319 : decode cL_holds 319 = .ok (.invokevirtual 9, 3) := by decide +kernel
theorem dL_holds_322 : decode cL_holds 322 = .ok (.aload_n 0, 1) := by decide +kernel
theorem dL_holds_323 : decode cL_holds 323 = .ok (.iconst 2, 1) := by decide +kernel
theorem dL_holds_324 : decode cL_holds 324 = .ok (.invokevirtual 9, 3) := by decide +kernel
theorem dL_holds_327 : decode cL_holds 327 = .ok (.iadd, 1) := by decide +kernel
theorem dL_holds_328 : decode cL_holds 328 = .ok (.aload_n 0, 1) := by decide +kernel
theorem dL_holds_329 : decode cL_holds 329 = .ok (.iconst 3, 1) := by decide +kernel
theorem dL_holds_330 : decode cL_holds 330 = .ok (.invokevirtual 9, 3) := by decide +kernel
theorem dL_holds_333 : decode cL_holds 333 = .ok (.iadd, 1) := by decide +kernel
theorem dL_holds_334 : decode cL_holds 334 = .ok (.aload_n 0, 1) := by decide +kernel
theorem dL_holds_335 : decode cL_holds 335 = .ok (.iconst 4, 1) := by decide +kernel
theorem dL_holds_336 : decode cL_holds 336 = .ok (.invokevirtual 9, 3) := by decide +kernel
theorem dL_holds_339 : decode cL_holds 339 = .ok (.iadd, 1) := by decide +kernel
theorem dL_holds_340 : decode cL_holds 340 = .ok (.iload_n 1, 1) := by decide +kernel
theorem dL_holds_341 : decode cL_holds 341 = .ok (.if_icmp .ne 18, 3) := by decide +kernel
theorem dL_holds_344 : decode cL_holds 344 = .ok (.iload 7, 2) := by decide +kernel
theorem dL_holds_346 : decode cL_holds 346 = .ok (.aload_n 0, 1) := by decide +kernel
theorem dL_holds_347 : decode cL_holds 347 = .ok (.bipush 13, 2) := by decide +kernel
theorem dL_holds_349 : decode cL_holds 349 = .ok (.invokevirtual 9, 3) := by decide +kernel
theorem dL_holds_352 : decode cL_holds 352 = .ok (.if_icmp .ne 7, 3) := by decide +kernel
theorem dL_holds_355 : decode cL_holds 355 = .ok (.iconst 1, 1) := by decide +kernel
theorem dL_holds_356 : decode cL_holds 356 = .ok (.goto 4, 3) := by decide +kernel
theorem dL_holds_359 : decode cL_holds 359 = .ok (.iconst 0, 1) := by decide +kernel
theorem dL_holds_360 : decode cL_holds 360 = .ok (.istore 6, 2) := by decide +kernel
theorem dL_holds_362 : decode cL_holds 362 = .ok (.iload 6, 2) := by decide +kernel
theorem dL_holds_364 : decode cL_holds 364 = .ok (.ifCond .eq 82, 3) := by decide +kernel
theorem dL_holds_367 : decode cL_holds 367 = .ok (.aload_n 0, 1) := by decide +kernel
theorem dL_holds_368 : decode cL_holds 368 = .ok (.bipush 12, 2) := by decide +kernel
theorem dL_holds_370 : decode cL_holds 370 = .ok (.invokevirtual 9, 3) := by decide +kernel
theorem dL_holds_373 : decode cL_holds 373 = .ok (.iload_n 1, 1) := by decide +kernel
theorem dL_holds_374 : decode cL_holds 374 = .ok (.aload_n 0, 1) := by decide +kernel
theorem dL_holds_375 : decode cL_holds 375 = .ok (.iconst 1, 1) := by decide +kernel
theorem dL_holds_376 : decode cL_holds 376 = .ok (.invokevirtual 9, 3) := by decide +kernel
theorem dL_holds_379 : decode cL_holds 379 = .ok (.isub, 1) := by decide +kernel
theorem dL_holds_380 : decode cL_holds 380 = .ok (.if_icmp .gt 66, 3) := by decide +kernel
theorem dL_holds_383 : decode cL_holds 383 = .ok (.aload_n 0, 1) := by decide +kernel
theorem dL_holds_384 : decode cL_holds 384 = .ok (.invokestatic 89, 3) := by decide +kernel
theorem dL_holds_387 : decode cL_holds 387 = .ok (.ifCond .eq 59, 3) := by decide +kernel
theorem dL_holds_390 : decode cL_holds 390 = .ok (.aload_n 0, 1) := by decide +kernel
theorem dL_holds_391 : decode cL_holds 391 = .ok (.iconst 4, 1) := by decide +kernel
theorem dL_holds_392 : decode cL_holds 392 = .ok (.invokevirtual 9, 3) := by decide +kernel
theorem dL_holds_395 : decode cL_holds 395 = .ok (.ifCond .ne 38, 3) := by decide +kernel
theorem dL_holds_398 : decode cL_holds 398 = .ok (.aload_n 0, 1) := by decide +kernel
theorem dL_holds_399 : decode cL_holds 399 = .ok (.invokevirtual 93, 3) := by decide +kernel
theorem dL_holds_402 : decode cL_holds 402 = .ok (.bipush (-4), 2) := by decide +kernel
theorem dL_holds_404 : decode cL_holds 404 = .ok (.if_icmp .ne 7, 3) := by decide +kernel
theorem dL_holds_407 : decode cL_holds 407 = .ok (.iconst 1, 1) := by decide +kernel
theorem dL_holds_408 : decode cL_holds 408 = .ok (.goto 4, 3) := by decide +kernel
theorem dL_holds_411 : decode cL_holds 411 = .ok (.iconst 0, 1) := by decide +kernel
theorem dL_holds_412 : decode cL_holds 412 = .ok (.aload_n 0, 1) := by decide +kernel
theorem dL_holds_413 : decode cL_holds 413 = .ok (.iconst 0, 1) := by decide +kernel
theorem dL_holds_414 : decode cL_holds 414 = .ok (.iconst 0, 1) := by decide +kernel
theorem dL_holds_415 : decode cL_holds 415 = .ok (.invokevirtual 70, 3) := by decide +kernel
theorem dL_holds_418 : decode cL_holds 418 = .ok (.iconst 1, 1) := by decide +kernel
theorem dL_holds_419 : decode cL_holds 419 = .ok (.if_icmp .ne 7, 3) := by decide +kernel
theorem dL_holds_422 : decode cL_holds 422 = .ok (.iconst 1, 1) := by decide +kernel
theorem dL_holds_423 : decode cL_holds 423 = .ok (.goto 4, 3) := by decide +kernel
theorem dL_holds_426 : decode cL_holds 426 = .ok (.iconst 0, 1) := by decide +kernel
theorem dL_holds_427 : decode cL_holds 427 = .ok (.if_icmp .ne 19, 3) := by decide +kernel
theorem dL_holds_430 : decode cL_holds 430 = .ok (.goto 12, 3) := by decide +kernel
theorem dL_holds_433 : decode cL_holds 433 = .ok (.aload_n 0, 1) := by decide +kernel
theorem dL_holds_434 : decode cL_holds 434 = .ok (.invokevirtual 93, 3) := by decide +kernel
theorem dL_holds_437 : decode cL_holds 437 = .ok (.bipush (-2), 2) := by decide +kernel
theorem dL_holds_439 : decode cL_holds 439 = .ok (.if_icmp .ne 7, 3) := by decide +kernel
theorem dL_holds_442 : decode cL_holds 442 = .ok (.iconst 1, 1) := by decide +kernel
theorem dL_holds_443 : decode cL_holds 443 = .ok (.goto 4, 3) := by decide +kernel
theorem dL_holds_446 : decode cL_holds 446 = .ok (.iconst 0, 1) := by decide +kernel
theorem dL_holds_447 : decode cL_holds 447 = .ok (.ireturn, 1) := by decide +kernel
theorem dL_tries_0 : decode cL_tries 0 = .ok (.aload_n 0, 1) := by decide +kernel
theorem dL_tries_1 : decode cL_tries 1 = .ok (.iconst 0, 1) := by decide +kernel
theorem dL_tries_2 : decode cL_tries 2 = .ok (.invokevirtual 9, 3) := by decide +kernel
theorem dL_tries_5 : decode cL_tries 5 = .ok (.istore_n 2, 1) := by decide +kernel
theorem dL_tries_6 : decode cL_tries 6 = .ok (.iload_n 2, 1) := by decide +kernel
theorem dL_tries_7 : decode cL_tries 7 = .ok (.ifCond .ne 21, 3) := by decide +kernel
theorem dL_tries_10 : decode cL_tries 10 = .ok (.aload_n 0, 1) := by decide +kernel
theorem dL_tries_11 : decode cL_tries 11 = .ok (.iconst 0, 1) := by decide +kernel
theorem dL_tries_12 : decode cL_tries 12 = .ok (.iconst 0, 1) := by decide +kernel
theorem dL_tries_13 : decode cL_tries 13 = .ok (.iconst 0, 1) := by decide +kernel
theorem dL_tries_14 : decode cL_tries 14 = .ok (.iconst 0, 1) := by decide +kernel
theorem dL_tries_15 : decode cL_tries 15 = .ok (.invokevirtual 95, 3) := by decide +kernel
theorem dL_tries_18 : decode cL_tries 18 = .ok (.iconst (-1), 1) := by decide +kernel
theorem dL_tries_19 : decode cL_tries 19 = .ok (.if_icmp .ne 7, 3) := by decide +kernel
theorem dL_tries_22 : decode cL_tries 22 = .ok (.iconst 1, 1) := by decide +kernel
theorem dL_tries_23 : decode cL_tries 23 = .ok (.goto 4, 3) := by decide +kernel
theorem dL_tries_26 : decode cL_tries 26 = .ok (.iconst 0, 1) := by decide +kernel
theorem dL_tries_27 : decode cL_tries 27 = .ok (.ireturn, 1) := by decide +kernel
theorem dL_tries_28 : decode cL_tries 28 = .ok (.iload_n 1, 1) := by decide +kernel
theorem dL_tries_29 : decode cL_tries 29 = .ok (.iload_n 2, 1) := by decide +kernel
theorem dL_tries_30 : decode cL_tries 30 = .ok (.invokestatic 15, 3) := by decide +kernel
theorem dL_tries_33 : decode cL_tries 33 = .ok (.istore_n 3, 1) := by decide +kernel
theorem dL_tries_34 : decode cL_tries 34 = .ok (.iload_n 1, 1) := by decide +kernel
theorem dL_tries_35 : decode cL_tries 35 = .ok (.iconst 4, 1) := by decide +kernel
theorem dL_tries_36 : decode cL_tries 36 = .ok (.ishr, 1) := by decide +kernel
theorem dL_tries_37 : decode cL_tries 37 = .ok (.iconst 3, 1) := by decide +kernel
theorem dL_tries_38 : decode cL_tries 38 = .ok (.invokestatic 15, 3) := by decide +kernel
theorem dL_tries_41 : decode cL_tries 41 = .ok (.istore 4, 2) := by decide +kernel
theorem dL_tries_43 : decode cL_tries 43 = .ok (.iload_n 1, 1) := by decide +kernel
theorem dL_tries_44 : decode cL_tries 44 = .ok (.bipush 6, 2) := by decide +kernel
theorem dL_tries_46 : decode cL_tries 46 = .ok (.ishr, 1) := by decide +kernel
theorem dL_tries_47 : decode cL_tries 47 = .ok (.iconst 4, 1) := by decide +kernel
theorem dL_tries_48 : decode cL_tries 48 = .ok (.invokestatic 15, 3) := by decide +kernel
theorem dL_tries_51 : decode cL_tries 51 = .ok (.istore 5, 2) := by decide +kernel
theorem dL_tries_53 : decode cL_tries 53 = .ok (.aload_n 0, 1) := by decide +kernel
theorem dL_tries_54 : decode cL_tries 54 = .ok (.iload_n 3, 1) := by decide +kernel
theorem dL_tries_55 : decode cL_tries 55 = .ok (.iload 4, 2) := by decide +kernel
theorem dL_tries_57 : decode cL_tries 57 = .ok (.iload 5, 2) := by decide +kernel
theorem dL_tries_59 : decode cL_tries 59 = .ok (.iconst 0, 1) := by decide +kernel
theorem dL_tries_60 : decode cL_tries 60 = .ok (.invokevirtual 95, 3) := by decide +kernel
theorem dL_tries_63 : decode cL_tries 63 = .ok (.istore 6, 2) := by decide +kernel
theorem dL_tries_65 : decode cL_tries 65 = .ok (.aload_n 0, 1) := by decide +kernel
theorem dL_tries_66 : decode cL_tries 66 = .ok (.iload_n 3, 1) := by decide +kernel
theorem dL_tries_67 : decode cL_tries 67 = .ok (.iload 4, 2) := by decide +kernel
theorem dL_tries_69 : decode cL_tries 69 = .ok (.iload 5, 2) := by decide +kernel
theorem dL_tries_71 : decode cL_tries 71 = .ok (.iconst 1, 1) := by decide +kernel
theorem dL_tries_72 : decode cL_tries 72 = .ok (.invokevirtual 95, 3) := by decide +kernel
theorem dL_tries_75 : decode cL_tries 75 = .ok (.istore 7, 2) := by decide +kernel
theorem dL_tries_77 : decode cL_tries 77 = .ok (.aload_n 0, 1) := by decide +kernel
theorem dL_tries_78 : decode cL_tries 78 = .ok (.iload_n 3, 1) := by decide +kernel
theorem dL_tries_79 : decode cL_tries 79 = .ok (.iload 4, 2) := by decide +kernel
theorem dL_tries_81 : decode cL_tries 81 = .ok (.iload 5, 2) := by decide +kernel
theorem dL_tries_83 : decode cL_tries 83 = .ok (.iconst 2, 1) := by decide +kernel
theorem dL_tries_84 : decode cL_tries 84 = .ok (.invokevirtual 95, 3) := by decide +kernel
theorem dL_tries_87 : decode cL_tries 87 = .ok (.istore 8, 2) := by decide +kernel
theorem dL_tries_89 : decode cL_tries 89 = .ok (.aload_n 0, 1) := by decide +kernel
theorem dL_tries_90 : decode cL_tries 90 = .ok (.iconst 0, 1) := by decide +kernel
theorem dL_tries_91 : decode cL_tries 91 = .ok (.iconst 0, 1) := by decide +kernel
theorem dL_tries_92 : decode cL_tries 92 = .ok (.invokevirtual 70, 3) := by decide +kernel
theorem dL_tries_95 : decode cL_tries 95 = .ok (.istore 9, 2) := by decide +kernel
theorem dL_tries_97 : decode cL_tries 97 = .ok (.aload_n 0, 1) := by decide +kernel
theorem dL_tries_98 : decode cL_tries 98 = .ok (.iload_n 3, 1) := by decide +kernel
theorem dL_tries_99 : decode cL_tries 99 = .ok (.iload 4, 2) := by decide +kernel
theorem dL_tries_101 : decode cL_tries 101 = .ok (.aload_n 0, 1) := by decide +kernel
theorem dL_tries_102 : decode cL_tries 102 = .ok (.iload_n 3, 1) := by decide +kernel
theorem dL_tries_103 : decode cL_tries 103 = .ok (.iconst 1, 1) := by decide +kernel
theorem dL_tries_104 : decode cL_tries 104 = .ok (.invokevirtual 51, 3) := by decide +kernel
theorem dL_tries_107 : decode cL_tries 107 = .ok (.iconst 1, 1) := by decide +kernel
theorem dL_tries_108 : decode cL_tries 108 = .ok (.if_icmp .ne 7, 3) := by decide +kernel
theorem dL_tries_111 : decode cL_tries 111 = .ok (.iconst 1, 1) := by decide +kernel
theorem dL_tries_112 : decode cL_tries 112 = .ok (.goto 4, 3) := by decide +kernel
theorem dL_tries_115 : decode cL_tries 115 = .ok (.iconst 0, 1) := by decide +kernel
theorem dL_tries_116 : decode cL_tries 116 = .ok (.iload 5, 2) := by decide +kernel
theorem dL_tries_118 : decode cL_tries 118 = .ok (.invokevirtual 21, 3) := by decide +kernel
theorem dL_tries_121 : decode cL_tries 121 = .ok (.iload_n 2, 1) := by decide +kernel
theorem dL_tries_122 : decode cL_tries 122 = .ok (.if_icmp .ne 29, 3) := by decide +kernel
theorem dL_tries_125 : decode cL_tries 125 = .ok (.aload_n 0, 1) := by decide +kernel
theorem dL_tries_126 : decode cL_tries 126 = .ok (.iconst 0, 1) := by decide +kernel
theorem dL_tries_127 : decode cL_tries 127 = .ok (.iconst 0, 1) := by decide +kernel
theorem dL_tries_128 : decode cL_tries 128 = .ok (.invokevirtual 70, 3) := by decide +kernel
theorem dL_tries_131 : decode cL_tries 131 = .ok (.iload 6, 2) := by decide +kernel
theorem dL_tries_133 : decode cL_tries 133 = .ok (.if_icmp .ne 18, 3) := by decide +kernel
theorem dL_tries_136 : decode cL_tries 136 = .ok (.aload_n 0, 1) := by decide +kernel
theorem dL_tries_137 : decode cL_tries 137 = .ok (.iconst 1, 1) := by decide +kernel
theorem dL_tries_138 : decode cL_tries 138 = .ok (.iconst 0, 1) := by decide +kernel
theorem dL_tries_139 : decode cL_tries 139 = .ok (.invokevirtual 70, 3) := by decide +kernel
theorem dL_tries_142 : decode cL_tries 142 = .ok (.iload 7, 2) := by decide +kernel
theorem dL_tries_144 : decode cL_tries 144 = .ok (.if_icmp .ne 7, 3) := by decide +kernel
theorem dL_tries_147 : decode cL_tries 147 = .ok (.iconst 1, 1) := by decide +kernel
theorem dL_tries_148 : decode cL_tries 148 = .ok (.goto 4, 3) := by decide +kernel
theorem dL_tries_151 : decode cL_tries 151 = .ok (.iconst 0, 1) := by decide +kernel
theorem dL_tries_152 : decode cL_tries 152 = .ok (.istore 10, 2) := by decide +kernel
theorem dL_tries_154 : decode cL_tries 154 = .ok (.iconst 0, 1) := by decide +kernel
theorem dL_tries_155 : decode cL_tries 155 = .ok (.istore 11, 2) := by decide +kernel
theorem dL_tries_157 : decode cL_tries 157 = .ok (.iconst 0, 1) := by decide +kernel
theorem dL_tries_158 : decode cL_tries 158 = .ok (.istore 12, 2) := by decide +kernel
theorem dL_tries_160 : decode cL_tries 160 = .ok (.iload 12, 2) := by decide +kernel
theorem dL_tries_162 : decode cL_tries 162 = .ok (.iload_n 2, 1) := by decide +kernel
theorem dL_tries_163 : decode cL_tries 163 = .ok (.if_icmp .ge 34, 3) := by decide +kernel
theorem dL_tries_166 : decode cL_tries 166 = .ok (.iload 11, 2) := by decide +kernel
theorem dL_tries_168 : decode cL_tries 168 = .ok (.aload_n 0, 1) := by decide +kernel
theorem dL_tries_169 : decode cL_tries 169 = .ok (.iload 12, 2) := by decide +kernel
theorem dL_tries_171 : decode cL_tries 171 = .ok (.bipush 6, 2) := by decide +kernel
theorem dL_tries_173 : decode cL_tries 173 = .ok (.invokevirtual 51, 3) := by decide +kernel
theorem dL_tries_176 : decode cL_tries 176 = .ok (.iconst 1, 1) := by decide +kernel
theorem dL_tries_177 : decode cL_tries 177 = .ok (.if_icmp .ne 10, 3) := by decide +kernel
theorem dL_tries_180 : decode cL_tries 180 = .ok (.iconst 1, 1) := by decide +kernel
theorem dL_tries_181 : decode cL_tries 181 = .ok (.iload 12, 2) := by decide +kernel
theorem dL_tries_183 : decode cL_tries 183 = .ok (.ishl, 1) := by decide +kernel
theorem dL_tries_184 : decode cL_tries 184 = .ok (.goto 4, 3) := by decide +kernel
theorem dL_tries_187 : decode cL_tries 187 = .ok (.iconst 0, 1) := by decide +kernel
theorem dL_tries_188 : decode cL_tries 188 = .ok (.ior, 1) := by decide +kernel
theorem dL_tries_189 : decode cL_tries 189 = .ok (.istore 11, 2) := by decide +kernel
theorem dL_tries_191 : decode cL_tries 191 = .ok (.iinc 12 1, 3) := by decide +kernel
theorem dL_tries_194 : decode cL_tries 194 = .ok (.goto (-34), 3) := by decide +kernel
theorem dL_tries_197 : decode cL_tries 197 = .ok (.iload 10, 2) := by decide +kernel
theorem dL_tries_199 : decode cL_tries 199 = .ok (.ifCond .eq 46, 3) := by decide +kernel
theorem dL_tries_202 : decode cL_tries 202 = .ok (.iload 8, 2) := by decide +kernel
theorem dL_tries_204 : decode cL_tries 204 = .ok (.iload 6, 2) := by decide +kernel
theorem dL_tries_206 : decode cL_tries 206 = .ok (.ifCond .ne 8, 3) := by decide +kernel
theorem dL_tries_209 : decode cL_tries 209 = .ok (.bipush (-4), 2) := by decide +kernel
theorem dL_tries_211 : decode cL_tries 211 = .ok (.goto 9, 3) := by decide +kernel
theorem dL_tries_214 : decode cL_tries 214 = .ok (.aload_n 0, 1) := by decide +kernel
theorem dL_tries_215 : decode cL_tries 215 = .ok (.iload 11, 2) := by decide +kernel
theorem dL_tries_217 : decode cL_tries 217 = .ok (.invokestatic 66, 3) := by decide +kernel
theorem dL_tries_220 : decode cL_tries 220 = .ok (.if_icmp .ne 25, 3) := by decide +kernel
theorem dL_tries_223 : decode cL_tries 223 = .ok (.aload_n 0, 1) := by decide +kernel
theorem dL_tries_224 : decode cL_tries 224 = .ok (.invokevirtual 99, 3) := by decide +kernel
theorem dL_tries_227 : decode cL_tries 227 = .ok (.ifCond .lt 18, 3) := by decide +kernel
theorem dL_tries_230 : decode cL_tries 230 = .ok (.aload_n 0, 1) := by decide +kernel
theorem dL_tries_231 : decode cL_tries 231 = .ok (.iconst 0, 1) := by decide +kernel
theorem dL_tries_232 : decode cL_tries 232 = .ok (.iconst 0, 1) := by decide +kernel
theorem dL_tries_233 : decode cL_tries 233 = .ok (.invokevirtual 70, 3) := by decide +kernel
theorem dL_tries_236 : decode cL_tries 236 = .ok (.iload 9, 2) := by decide +kernel
theorem dL_tries_238 : decode cL_tries 238 = .ok (.if_icmp .ne 7, 3) := by decide +kernel
theorem dL_tries_241 : decode cL_tries 241 = .ok (.iconst 1, 1) := by decide +kernel
theorem dL_tries_242 : decode cL_tries 242 = .ok (.goto 4, 3) := by decide +kernel
theorem dL_tries_245 : decode cL_tries 245 = .ok (.iconst 0, 1) := by decide +kernel
theorem dL_tries_246 : decode cL_tries 246 = .ok (.istore 10, 2) := by decide +kernel
theorem dL_tries_248 : decode cL_tries 248 = .ok (.aload_n 0, 1) := by decide +kernel
theorem dL_tries_249 : decode cL_tries 249 = .ok (.invokevirtual 34, 3) := by decide +kernel
theorem dL_tries_252 : decode cL_tries 252 = .ok (.istore 12, 2) := by decide +kernel
theorem dL_tries_254 : decode cL_tries 254 = .ok (.iload 10, 2) := by decide +kernel
theorem dL_tries_256 : decode cL_tries 256 = .ok (.ifCond .eq 41, 3) := by decide +kernel
theorem dL_tries_259 : decode cL_tries 259 = .ok (.aload_n 0, 1) := by decide +kernel
theorem dL_tries_260 : decode cL_tries 260 = .ok (.iconst 0, 1) := by decide +kernel
theorem dL_tries_261 : decode cL_tries 261 = .ok (.iconst 0, 1) := by decide +kernel
theorem dL_tries_262 : decode cL_tries 262 = .ok (.invokevirtual 70, 3) := by decide +kernel
theorem dL_tries_265 : decode cL_tries 265 = .ok (.iload 9, 2) := by decide +kernel
theorem dL_tries_267 : decode cL_tries 267 = .ok (.if_icmp .ne 30, 3) := by decide +kernel
theorem dL_tries_270 : decode cL_tries 270 = .ok (.aload_n 0, 1) := by decide +kernel
theorem dL_tries_271 : decode cL_tries 271 = .ok (.invokevirtual 34, 3) := by decide +kernel
theorem dL_tries_274 : decode cL_tries 274 = .ok (.iload 12, 2) := by decide +kernel
theorem dL_tries_276 : decode cL_tries 276 = .ok (.if_icmp .ne 21, 3) := by decide +kernel
theorem dL_tries_279 : decode cL_tries 279 = .ok (.aload_n 0, 1) := by decide +kernel
theorem dL_tries_280 : decode cL_tries 280 = .ok (.invokevirtual 99, 3) := by decide +kernel
theorem dL_tries_283 : decode cL_tries 283 = .ok (.ifCond .lt 14, 3) := by decide +kernel
theorem dL_tries_286 : decode cL_tries 286 = .ok (.aload_n 0, 1) := by decide +kernel
theorem dL_tries_287 : decode cL_tries 287 = .ok (.invokevirtual 99, 3) := by decide +kernel
theorem dL_tries_290 : decode cL_tries 290 = .ok (.ifCond .lt 7, 3) := by decide +kernel
theorem dL_tries_293 : decode cL_tries 293 = .ok (.iconst 1, 1) := by decide +kernel
theorem dL_tries_294 : decode cL_tries 294 = .ok (.goto 4, 3) := by decide +kernel
theorem dL_tries_297 : decode cL_tries 297 = .ok (.iconst 0, 1) := by decide +kernel
theorem dL_tries_298 : decode cL_tries 298 = .ok (.istore 10, 2) := by decide +kernel
theorem dL_tries_300 : decode cL_tries 300 = .ok (.aload_n 0, 1) := by decide +kernel
theorem dL_tries_301 : decode cL_tries 301 = .ok (.iload_n 3, 1) := by decide +kernel
theorem dL_tries_302 : decode cL_tries 302 = .ok (.invokevirtual 38, 3) := by decide +kernel
theorem dL_tries_305 : decode cL_tries 305 = .ok (.istore 13, 2) := by decide +kernel
theorem dL_tries_307 : decode cL_tries 307 = .ok (.iload 10, 2) := by decide +kernel
theorem dL_tries_309 : decode cL_tries 309 = .ok (.ifCond .eq 49, 3) := by decide +kernel
theorem dL_tries_312 : decode cL_tries 312 = .ok (.iload 13, 2) := by decide +kernel
theorem dL_tries_314 : decode cL_tries 314 = .ok (.ifCond .lt 44, 3) := by decide +kernel
theorem dL_tries_317 : decode cL_tries 317 = .ok (.aload_n 0, 1) := by decide +kernel
theorem dL_tries_318 : decode cL_tries 318 = .ok (.iload_n 2, 1) := by decide +kernel
theorem dL_tries_319 : decode cL_tries 319 = .ok (.iload_n 3, 1) := by decide +kernel
theorem dL_tries_320 : decode cL_tries 320 = .ok (.isub, 1) := by decide +kernel
theorem dL_tries_321 : decode cL_tries 321 = .ok (.invokevirtual 38, 3) := by decide +kernel
theorem dL_tries_324 : decode cL_tries 324 = .ok (.iload 13, 2) := by decide +kernel
theorem dL_tries_326 : decode cL_tries 326 = .ok (.if_icmp .ne 32, 3) := by decide +kernel
theorem dL_tries_329 : decode cL_tries 329 = .ok (.aload_n 0, 1) := by decide +kernel
theorem dL_tries_330 : decode cL_tries 330 = .ok (.invokevirtual 99, 3) := by decide +kernel
theorem dL_tries_333 : decode cL_tries 333 = .ok (.ifCond .lt 25, 3) := by decide +kernel
theorem dL_tries_336 : decode cL_tries 336 = .ok (.aload_n 0, 1) := by decide +kernel
theorem dL_tries_337 : decode cL_tries 337 = .ok (.invokevirtual 99, 3) := by decide +kernel
theorem dL_tries_340 : decode cL_tries 340 = .ok (.ifCond .lt 18, 3) := by decide +kernel
theorem dL_tries_343 : decode cL_tries 343 = .ok (.aload_n 0, 1) := by decide +kernel
theorem dL_tries_344 : decode cL_tries 344 = .ok (.iconst 0, 1) := by decide +kernel
theorem dL_tries_345 : decode cL_tries 345 = .ok (.iconst 0, 1) := by decide +kernel
theorem dL_tries_346 : decode cL_tries 346 = .ok (.invokevirtual 70, 3) := by decide +kernel
theorem dL_tries_349 : decode cL_tries 349 = .ok (.iload 9, 2) := by decide +kernel
theorem dL_tries_351 : decode cL_tries 351 = .ok (.if_icmp .ne 7, 3) := by decide +kernel
theorem dL_tries_354 : decode cL_tries 354 = .ok (.iconst 1, 1) := by decide +kernel
theorem dL_tries_355 : decode cL_tries 355 = .ok (.goto 4, 3) := by decide +kernel
theorem dL_tries_358 : decode cL_tries 358 = .ok (.iconst 0, 1) := by decide +kernel
theorem dL_tries_359 : decode cL_tries 359 = .ok (.ireturn, 1) := by decide +kernel
theorem dL_law_0 : decode cL_law 0 = .ok (.new 10, 3) := by decide +kernel
theorem dL_law_3 : decode cL_law 3 = .ok (.dup, 1) := by decide +kernel
theorem dL_law_4 : decode cL_law 4 = .ok (.invokespecial 102, 3) := by decide +kernel
theorem dL_law_7 : decode cL_law 7 = .ok (.astore_n 1, 1) := by decide +kernel
theorem dL_law_8 : decode cL_law 8 = .ok (.aload_n 1, 1) := by decide +kernel
theorem dL_law_9 : decode cL_law 9 = .ok (.invokestatic 103, 3) := by decide +kernel
theorem dL_law_12 : decode cL_law 12 = .ok (.ifCond .eq 23, 3) := by decide +kernel
theorem dL_law_15 : decode cL_law 15 = .ok (.aload_n 1, 1) := by decide +kernel
theorem dL_law_16 : decode cL_law 16 = .ok (.invokevirtual 99, 3) := by decide +kernel
theorem dL_law_19 : decode cL_law 19 = .ok (.bipush (-2), 2) := by decide +kernel
theorem dL_law_21 : decode cL_law 21 = .ok (.if_icmp .ne 14, 3) := by decide +kernel
theorem dL_law_24 : decode cL_law 24 = .ok (.aload_n 1, 1) := by decide +kernel
theorem dL_law_25 : decode cL_law 25 = .ok (.invokevirtual 106, 3) := by decide +kernel
theorem dL_law_28 : decode cL_law 28 = .ok (.ifCond .ne 7, 3) := by decide +kernel
theorem dL_law_31 : decode cL_law 31 = .ok (.iconst 1, 1) := by decide +kernel
theorem dL_law_32 : decode cL_law 32 = .ok (.goto 4, 3) := by decide +kernel
theorem dL_law_35 : decode cL_law 35 = .ok (.iconst 0, 1) := by decide +kernel
theorem dL_law_36 : decode cL_law 36 = .ok (.istore_n 2, 1) := by decide +kernel
theorem dL_law_37 : decode cL_law 37 = .ok (.aload_n 0, 1) := by decide +kernel
theorem dL_law_38 : decode cL_law 38 = .ok (.arraylength, 1) := by decide +kernel
theorem dL_law_39 : decode cL_law 39 = .ok (.iconst 3, 1) := by decide +kernel
theorem dL_law_40 : decode cL_law 40 = .ok (.idiv, 1) := by decide +kernel
theorem dL_law_41 : decode cL_law 41 = .ok (.bipush 30, 2) := by decide +kernel
theorem dL_law_43 : decode cL_law 43 = .ok (.if_icmp .le 8, 3) := by decide +kernel
theorem dL_law_46 : decode cL_law 46 = .ok (.bipush 30, 2) := by decide +kernel
theorem dL_law_48 : decode cL_law 48 = .ok (.goto 7, 3) := by decide +kernel
theorem dL_law_51 : decode cL_law 51 = .ok (.aload_n 0, 1) := by decide +kernel
theorem dL_law_52 : decode cL_law 52 = .ok (.arraylength, 1) := by decide +kernel
theorem dL_law_53 : decode cL_law 53 = .ok (.iconst 3, 1) := by decide +kernel
theorem dL_law_54 : decode cL_law 54 = .ok (.idiv, 1) := by decide +kernel
theorem dL_law_55 : decode cL_law 55 = .ok (.istore_n 3, 1) := by decide +kernel
theorem dL_law_56 : decode cL_law 56 = .ok (.iconst 0, 1) := by decide +kernel
theorem dL_law_57 : decode cL_law 57 = .ok (.istore 4, 2) := by decide +kernel
theorem dL_law_59 : decode cL_law 59 = .ok (.iload 4, 2) := by decide +kernel
theorem dL_law_61 : decode cL_law 61 = .ok (.iload_n 3, 1) := by decide +kernel
theorem dL_law_62 : decode cL_law 62 = .ok (.if_icmp .ge 145, 3) := by decide +kernel
theorem dL_law_65 : decode cL_law 65 = .ok (.iload_n 2, 1) := by decide +kernel
theorem dL_law_66 : decode cL_law 66 = .ok (.ifCond .eq 141, 3) := by decide +kernel
theorem dL_law_69 : decode cL_law 69 = .ok (.aload_n 1, 1) := by decide +kernel
theorem dL_law_70 : decode cL_law 70 = .ok (.bipush 15, 2) := by decide +kernel
theorem dL_law_72 : decode cL_law 72 = .ok (.invokevirtual 9, 3) := by decide +kernel
theorem dL_law_75 : decode cL_law 75 = .ok (.istore 5, 2) := by decide +kernel
theorem dL_law_77 : decode cL_law 77 = .ok (.aload_n 0, 1) := by decide +kernel
theorem dL_law_78 : decode cL_law 78 = .ok (.iconst 3, 1) := by decide +kernel
theorem dL_law_79 : decode cL_law 79 = .ok (.iload 4, 2) := by decide +kernel
theorem dL_law_81 : decode cL_law 81 = .ok (.imul, 1) := by decide +kernel
theorem dL_law_82 : decode cL_law 82 = .ok (.invokestatic 109, 3) := by decide +kernel
theorem dL_law_85 : decode cL_law 85 = .ok (.bipush 12, 2) := by decide +kernel
theorem dL_law_87 : decode cL_law 87 = .ok (.invokestatic 15, 3) := by decide +kernel
theorem dL_law_90 : decode cL_law 90 = .ok (.istore 6, 2) := by decide +kernel
theorem dL_law_92 : decode cL_law 92 = .ok (.aload_n 1, 1) := by decide +kernel
theorem dL_law_93 : decode cL_law 93 = .ok (.iload 6, 2) := by decide +kernel
theorem dL_law_95 : decode cL_law 95 = .ok (.aload_n 0, 1) := by decide +kernel
theorem dL_law_96 : decode cL_law 96 = .ok (.iconst 3, 1) := by decide +kernel
theorem dL_law_97 : decode cL_law 97 = .ok (.iload 4, 2) := by decide +kernel
theorem dL_law_99 : decode cL_law 99 = .ok (.imul, 1) := by decide +kernel
theorem dL_law_100 : decode cL_law 100 = .ok (.iconst 1, 1) := by decide +kernel
theorem dL_law_101 : decode cL_law 101 = .ok (.iadd, 1) := by decide +kernel
theorem dL_law_102 : decode cL_law 102 = .ok (.invokestatic 109, 3) := by decide +kernel
theorem dL_law_105 : decode cL_law 105 = .ok (.aload_n 0, 1) := by decide +kernel
theorem dL_law_106 : decode cL_law 106 = .ok (.iconst 3, 1) := by decide +kernel
theorem dL_law_107 : decode cL_law 107 = .ok (.iload 4, 2) := by decide +kernel
theorem dL_law_109 : decode cL_law 109 = .ok (.imul, 1) := by decide +kernel
theorem dL_law_110 : decode cL_law 110 = .ok (.iconst 2, 1) := by decide +kernel
theorem dL_law_111 : decode cL_law 111 = .ok (.iadd, 1) := by decide +kernel
theorem dL_law_112 : decode cL_law 112 = .ok (.invokestatic 109, 3) := by decide +kernel
theorem dL_law_115 : decode cL_law 115 = .ok (.invokestatic 113, 3) := by decide +kernel
theorem dL_law_118 : decode cL_law 118 = .ok (.istore 7, 2) := by decide +kernel
theorem dL_law_120 : decode cL_law 120 = .ok (.aload_n 1, 1) := by decide +kernel
theorem dL_law_121 : decode cL_law 121 = .ok (.bipush 15, 2) := by decide +kernel
theorem dL_law_123 : decode cL_law 123 = .ok (.invokevirtual 9, 3) := by decide +kernel
theorem dL_law_126 : decode cL_law 126 = .ok (.iload 7, 2) := by decide +kernel
theorem dL_law_128 : decode cL_law 128 = .ok (.ifCond .ge 8, 3) := by decide +kernel
theorem dL_law_131 : decode cL_law 131 = .ok (.iload 5, 2) := by decide +kernel
theorem dL_law_133 : decode cL_law 133 = .ok (.goto 17, 3) := by decide +kernel
theorem dL_law_136 : decode cL_law 136 = .ok (.iload 5, 2) := by decide +kernel
theorem dL_law_138 : decode cL_law 138 = .ok (.iconst 4, 1) := by decide +kernel
theorem dL_law_139 : decode cL_law 139 = .ok (.if_icmp .ne 7, 3) := by decide +kernel
theorem dL_law_142 : decode cL_law 142 = .ok (.iconst 4, 1) := by decide +kernel
theorem dL_law_143 : decode cL_law 143 = .ok (.goto 7, 3) := by decide +kernel
theorem dL_law_146 : decode cL_law 146 = .ok (.iload 5, 2) := by decide +kernel
theorem dL_law_148 : decode cL_law 148 = .ok (.iconst 1, 1) := by decide +kernel
theorem dL_law_149 : decode cL_law 149 = .ok (.iadd, 1) := by decide +kernel
theorem dL_law_150 : decode cL_law 150 = .ok (.if_icmp .ne 49, 3) := by decide +kernel
theorem dL_law_153 : decode cL_law 153 = .ok (.aload_n 1, 1) := by decide +kernel
theorem dL_law_154 : decode cL_law 154 = .ok (.iconst 0, 1) := by decide +kernel
theorem dL_law_155 : decode cL_law 155 = .ok (.invokevirtual 9, 3) := by decide +kernel
theorem dL_law_158 : decode cL_law 158 = .ok (.bipush 10, 2) := by decide +kernel
theorem dL_law_160 : decode cL_law 160 = .ok (.if_icmp .gt 39, 3) := by decide +kernel
theorem dL_law_163 : decode cL_law 163 = .ok (.aload_n 1, 1) := by decide +kernel
theorem dL_law_164 : decode cL_law 164 = .ok (.invokestatic 103, 3) := by decide +kernel
theorem dL_law_167 : decode cL_law 167 = .ok (.ifCond .eq 32, 3) := by decide +kernel
theorem dL_law_170 : decode cL_law 170 = .ok (.iload 4, 2) := by decide +kernel
theorem dL_law_172 : decode cL_law 172 = .ok (.iconst 4, 1) := by decide +kernel
theorem dL_law_173 : decode cL_law 173 = .ok (.irem, 1) := by decide +kernel
theorem dL_law_174 : decode cL_law 174 = .ok (.iconst 3, 1) := by decide +kernel
theorem dL_law_175 : decode cL_law 175 = .ok (.if_icmp .ne 20, 3) := by decide +kernel
theorem dL_law_178 : decode cL_law 178 = .ok (.aload_n 1, 1) := by decide +kernel
theorem dL_law_179 : decode cL_law 179 = .ok (.aload_n 0, 1) := by decide +kernel
theorem dL_law_180 : decode cL_law 180 = .ok (.iconst 3, 1) := by decide +kernel
theorem dL_law_181 : decode cL_law 181 = .ok (.iload 4, 2) := by decide +kernel
theorem dL_law_183 : decode cL_law 183 = .ok (.imul, 1) := by decide +kernel
theorem dL_law_184 : decode cL_law 184 = .ok (.iconst 2, 1) := by decide +kernel
theorem dL_law_185 : decode cL_law 185 = .ok (.iadd, 1) := by decide +kernel
theorem dL_law_186 : decode cL_law 186 = .ok (.invokestatic 109, 3) := by decide +kernel
theorem dL_law_189 : decode cL_law 189 = .ok (.invokestatic 116, 3) := by decide +kernel
theorem dL_law_192 : decode cL_law 192 = .ok (.ifCond .eq 7, 3) := by decide +kernel
theorem dL_law_195 : decode cL_law 195 = .ok (.iconst 1, 1) := by decide +kernel
theorem dL_law_196 : decode cL_law 196 = .ok (.goto 4, 3) := by decide +kernel
theorem dL_law_199 : decode cL_law 199 = .ok (.iconst 0, 1) := by decide +kernel
theorem dL_law_200 : decode cL_law 200 = .ok (.istore_n 2, 1) := by decide +kernel
theorem dL_law_201 : decode cL_law 201 = .ok (.iinc 4 1, 3) := by decide +kernel
theorem dL_law_204 : decode cL_law 204 = .ok (.goto (-145), 3) := by decide +kernel
theorem dL_law_207 : decode cL_law 207 = .ok (.iload_n 2, 1) := by decide +kernel
theorem dL_law_208 : decode cL_law 208 = .ok (.ireturn, 1) := by decide +kernel
