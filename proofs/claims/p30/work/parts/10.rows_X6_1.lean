theorem dX6_right_1 : decode cX6_right 1 = .ok (.getfield 10, 3) := by decide +kernel
theorem dX6_right_4 : decode cX6_right 4 = .ok (.invokevirtual 199, 3) := by decide +kernel
theorem dX6_right_7 : decode cX6_right 7 = .ok (.istore_n 2, 1) := by decide +kernel
theorem dX6_right_8 : decode cX6_right 8 = .ok (.iload_n 2, 1) := by decide +kernel
theorem dX6_right_9 : decode cX6_right 9 = .ok (.ifCond .eq 18, 3) := by decide +kernel
theorem dX6_right_12 : decode cX6_right 12 = .ok (.aload_n 0, 1) := by decide +kernel
theorem dX6_right_13 : decode cX6_right 13 = .ok (.getfield 46, 3) := by decide +kernel
theorem dX6_right_16 : decode cX6_right 16 = .ok (.aload_n 0, 1) := by decide +kernel
theorem dX6_right_17 : decode cX6_right 17 = .ok (.getfield 10, 3) := by decide +kernel
theorem dX6_right_20 : decode cX6_right 20 = .ok (.iload_n 1, 1) := by decide +kernel
theorem dX6_right_21 : decode cX6_right 21 = .ok (.invokevirtual 130, 3) := by decide +kernel
theorem dX6_right_24 : decode cX6_right 24 = .ok (.ifCond .ne 7, 3) := by decide +kernel
theorem dX6_right_27 : decode cX6_right 27 = .ok (.ldc2_w 208, 3) := by decide +kernel
theorem dX6_right_30 : decode cX6_right 30 = .ok (.dreturn, 1) := by decide +kernel
theorem dX6_right_31 : decode cX6_right 31 = .ok (.iconst 0, 1) := by decide +kernel
theorem dX6_right_32 : decode cX6_right 32 = .ok (.istore_n 3, 1) := by decide +kernel
theorem dX6_right_33 : decode cX6_right 33 = .ok (.iconst 0, 1) := by decide +kernel
theorem dX6_right_34 : decode cX6_right 34 = .ok (.istore 4, 2) := by decide +kernel
theorem dX6_right_36 : decode cX6_right 36 = .ok (.iload 4, 2) := by decide +kernel
theorem dX6_right_38 : decode cX6_right 38 = .ok (.aload_n 0, 1) := by decide +kernel
theorem dX6_right_39 : decode cX6_right 39 = .ok (.getfield 10, 3) := by decide +kernel
theorem dX6_right_42 : decode cX6_right 42 = .ok (.getfield 97, 3) := by decide +kernel
theorem dX6_right_45 : decode cX6_right 45 = .ok (.if_icmp .ge 33, 3) := by decide +kernel
theorem dX6_right_48 : decode cX6_right 48 = .ok (.iload_n 3, 1) := by decide +kernel
theorem dX6_right_49 : decode cX6_right 49 = .ok (.aload_n 0, 1) := by decide +kernel
theorem dX6_right_50 : decode cX6_right 50 = .ok (.getfield 10, 3) := by decide +kernel
theorem dX6_right_53 : decode cX6_right 53 = .ok (.iload 4, 2) := by decide +kernel
theorem dX6_right_55 : decode cX6_right 55 = .ok (.invokevirtual 89, 3) := by decide +kernel
theorem dX6_right_58 : decode cX6_right 58 = .ok (.aload_n 0, 1) := by decide +kernel
theorem dX6_right_59 : decode cX6_right 59 = .ok (.getfield 46, 3) := by decide +kernel
theorem dX6_right_62 : decode cX6_right 62 = .ok (.iload 4, 2) := by decide +kernel
theorem dX6_right_64 : decode cX6_right 64 = .ok (.invokevirtual 134, 3) := by decide +kernel
theorem dX6_right_67 : decode cX6_right 67 = .ok (.invokestatic 210, 3) := by decide +kernel
theorem dX6_right_70 : decode cX6_right 70 = .ok (.iadd, 1) := by decide +kernel
theorem dX6_right_71 : decode cX6_right 71 = .ok (.istore_n 3, 1) := by decide +kernel
theorem dX6_right_72 : decode cX6_right 72 = .ok (.iinc 4 1, 3) := by decide +kernel
theorem dX6_right_75 : decode cX6_right 75 = .ok (.goto (-39), 3) := by decide +kernel
theorem dX6_right_78 : decode cX6_right 78 = .ok (.iload_n 3, 1) := by decide +kernel
theorem dX6_right_79 : decode cX6_right 79 = .ok (.i2d, 1) := by decide +kernel
theorem dX6_right_80 : decode cX6_right 80 = .ok (.iload_n 2, 1) := by decide +kernel
theorem dX6_right_81 : decode cX6_right 81 = .ok (.i2d, 1) := by decide +kernel
theorem dX6_right_82 : decode cX6_right 82 = .ok (.ddiv, 1) := by decide +kernel
theorem dX6_right_83 : decode cX6_right 83 = .ok (.dreturn, 1) := by decide +kernel
set_option maxRecDepth 20000 in
theorem ggX6_ifStroke_X2_hasStep : GoodIn wsX6_ifStroke wsX2_hasStep := goodIn_r _ [8, 9, 135, 136, 137] (by decide +kernel) (by decide +kernel)
set_option maxRecDepth 20000 in
theorem gX6_ifStroke_X2_hasStep : GoodIn wsX6_ifStroke (wsV RX6 78 RX2 yX2_hasStep wsX2_hasStep) := goodIn_app (goodIn_of _ (by decide +kernel)) ggX6_ifStroke_X2_hasStep
set_option maxRecDepth 20000 in
theorem ggX6_ifStroke_X6_isHand : GoodIn wsX6_ifStroke wsX6_isHand := goodIn_r _ [13] (by decide +kernel) (by decide +kernel)
set_option maxRecDepth 20000 in
theorem gX6_ifStroke_X6_isHand : GoodIn wsX6_ifStroke (va_wsS RX6 62 yX6_isHand wsX6_isHand) := goodIn_app (goodIn_of _ (by decide +kernel)) ggX6_ifStroke_X6_isHand
set_option maxRecDepth 20000 in
theorem ggX6_ifStroke_X6_isOrnament : GoodIn wsX6_ifStroke wsX6_isOrnament := goodIn_r _ [16] (by decide +kernel) (by decide +kernel)
set_option maxRecDepth 20000 in
theorem gX6_ifStroke_X6_isOrnament : GoodIn wsX6_ifStroke (va_wsS RX6 65 yX6_isOrnament wsX6_isOrnament) := goodIn_app (goodIn_of _ (by decide +kernel)) ggX6_ifStroke_X6_isOrnament
set_option maxRecDepth 20000 in
theorem ggX6_ifStroke_X2_copy : GoodIn wsX6_ifStroke wsX2_copy := goodIn_r _ [20, 21, 22, 23, 24, 7, 25, 9, 26, 135, 136, 137] (by decide +kernel) (by decide +kernel)
set_option maxRecDepth 20000 in
theorem gX6_ifStroke_X2_copy : GoodIn wsX6_ifStroke (wsV RX6 118 RX2 yX2_copy wsX2_copy) := goodIn_app (goodIn_of _ (by decide +kernel)) ggX6_ifStroke_X2_copy
set_option maxRecDepth 20000 in
theorem ggX6_ifStroke_X2_at : GoodIn wsX6_ifStroke wsX2_at := goodIn_r _ [30, 26, 31, 5, 6, 7, 8, 9, 135, 136, 137] (by decide +kernel) (by decide +kernel)
set_option maxRecDepth 20000 in
theorem gX6_ifStroke_X2_at : GoodIn wsX6_ifStroke (wsV RX6 89 RX2 yX2_at wsX2_at) := goodIn_app (goodIn_of _ (by decide +kernel)) ggX6_ifStroke_X2_at
set_option maxRecDepth 20000 in
theorem ggX6_ifStroke_X5_isAccented : GoodIn wsX6_ifStroke wsX5_isAccented := goodIn_r _ [35] (by decide +kernel) (by decide +kernel)
set_option maxRecDepth 20000 in
theorem gX6_ifStroke_X5_isAccented : GoodIn wsX6_ifStroke (va_wsS RX6 158 yX5_isAccented wsX5_isAccented) := goodIn_app (goodIn_of _ (by decide +kernel)) ggX6_ifStroke_X5_isAccented
set_option maxRecDepth 20000 in
theorem ggX6_ifStroke_X5_of : GoodIn wsX6_ifStroke wsX5_of := goodIn_r _ [38] (by decide +kernel) (by decide +kernel)
set_option maxRecDepth 20000 in
theorem gX6_ifStroke_X5_of : GoodIn wsX6_ifStroke (va_wsS RX6 68 yX5_of wsX5_of) := goodIn_app (goodIn_of _ (by decide +kernel)) ggX6_ifStroke_X5_of
set_option maxRecDepth 20000 in
theorem ggX6_ifStroke_X2_change : GoodIn wsX6_ifStroke wsX2_change := goodIn_r _ [42, 26, 31, 5, 6, 7, 8, 9, 135, 136, 137] (by decide +kernel) (by decide +kernel)
set_option maxRecDepth 20000 in
theorem gX6_ifStroke_X2_change : GoodIn wsX6_ifStroke (wsV RX6 115 RX2 yX2_change wsX2_change) := goodIn_app (goodIn_of _ (by decide +kernel)) ggX6_ifStroke_X2_change
set_option maxRecDepth 20000 in
theorem ggX6_ifStroke_X3_canChoose : GoodIn wsX6_ifStroke wsX3_canChoose := goodIn_r _ [47, 48, 49, 50, 51, 52, 53, 46, 54, 55, 56, 57, 58, 59, 60, 61, 28, 29, 7, 30, 26, 31, 5, 6, 8, 9, 62, 63, 34, 64, 65, 66, 67, 68, 69, 70, 71, 72, 73, 74, 75, 76, 77, 78, 79, 80, 81, 82, 83, 84, 85, 86, 87, 88, 89, 90, 91, 92, 93, 94, 95, 96, 97, 98, 99, 100, 138, 139, 140, 141, 142, 143, 144, 135, 136, 137] (by decide +kernel) (by decide +kernel)
set_option maxRecDepth 20000 in
theorem gX6_ifStroke_X3_canChoose : GoodIn wsX6_ifStroke (wsV RX6 130 RX3 yX3_canChoose wsX3_canChoose) := goodIn_app (goodIn_of _ (by decide +kernel)) ggX6_ifStroke_X3_canChoose
set_option maxRecDepth 20000 in
theorem ggX6_ifStroke_X3_repeatedHands : GoodIn wsX6_ifStroke wsX3_repeatedHands := goodIn_r _ [104, 85, 86, 87, 46, 88, 84, 138, 139, 140, 141, 142, 143, 144] (by decide +kernel) (by decide +kernel)
set_option maxRecDepth 20000 in
theorem gX6_ifStroke_X3_repeatedHands : GoodIn wsX6_ifStroke (wsV RX6 216 RX3 yX3_repeatedHands wsX3_repeatedHands) := goodIn_app (goodIn_of _ (by decide +kernel)) ggX6_ifStroke_X3_repeatedHands
set_option maxRecDepth 20000 in
theorem ggX6_ifStroke_X3_tell : GoodIn wsX6_ifStroke wsX3_tell := goodIn_r _ [108, 109, 110, 111, 57, 112, 113, 114, 115, 7, 116, 9, 26, 117, 63, 34, 64, 51, 52, 53, 46, 54, 55, 56, 58, 48, 49, 59, 60, 61, 28, 29, 30, 31, 5, 6, 8, 62, 65, 66, 67, 68, 69, 70, 71, 72, 73, 74, 75, 118, 119, 120, 121, 122, 123, 124, 125, 93, 94, 95, 96, 97, 98, 99, 100, 135, 136, 137, 138, 139, 140, 141, 142, 143, 144] (by decide +kernel) (by decide +kernel)
set_option maxRecDepth 20000 in
theorem gX6_ifStroke_X3_tell : GoodIn wsX6_ifStroke (wsV RX6 181 RX3 yX3_tell wsX3_tell) := goodIn_app (goodIn_of _ (by decide +kernel)) ggX6_ifStroke_X3_tell
theorem dX6_ifStroke_0 : decode cX6_ifStroke 0 = .ok (.aload_n 0, 1) := by decide +kernel
theorem dX6_ifStroke_1 : decode cX6_ifStroke 1 = .ok (.getfield 10, 3) := by decide +kernel
theorem dX6_ifStroke_4 : decode cX6_ifStroke 4 = .ok (.iload_n 1, 1) := by decide +kernel
theorem dX6_ifStroke_5 : decode cX6_ifStroke 5 = .ok (.invokevirtual 78, 3) := by decide +kernel
theorem dX6_ifStroke_8 : decode cX6_ifStroke 8 = .ok (.ifCond .eq 28, 3) := by decide +kernel
theorem dX6_ifStroke_11 : decode cX6_ifStroke 11 = .ok (.iload_n 2, 1) := by decide +kernel
theorem dX6_ifStroke_12 : decode cX6_ifStroke 12 = .ok (.invokestatic 62, 3) := by decide +kernel
theorem dX6_ifStroke_15 : decode cX6_ifStroke 15 = .ok (.ifCond .eq 21, 3) := by decide +kernel
theorem dX6_ifStroke_18 : decode cX6_ifStroke 18 = .ok (.iload_n 3, 1) := by decide +kernel
theorem dX6_ifStroke_19 : decode cX6_ifStroke 19 = .ok (.invokestatic 65, 3) := by decide +kernel
theorem dX6_ifStroke_22 : decode cX6_ifStroke 22 = .ok (.ifCond .eq 14, 3) := by decide +kernel
theorem dX6_ifStroke_25 : decode cX6_ifStroke 25 = .ok (.iload 4, 2) := by decide +kernel
theorem dX6_ifStroke_27 : decode cX6_ifStroke 27 = .ok (.ifCond .lt 9, 3) := by decide +kernel
theorem dX6_ifStroke_30 : decode cX6_ifStroke 30 = .ok (.iload 4, 2) := by decide +kernel
theorem dX6_ifStroke_32 : decode cX6_ifStroke 32 = .ok (.iconst 2, 1) := by decide +kernel
theorem dX6_ifStroke_33 : decode cX6_ifStroke 33 = .ok (.if_icmp .le 5, 3) := by decide +kernel
theorem dX6_ifStroke_36 : decode cX6_ifStroke 36 = .ok (.iconst (-1), 1) := by decide +kernel
theorem dX6_ifStroke_37 : decode cX6_ifStroke 37 = .ok (.ireturn, 1) := by decide +kernel
theorem dX6_ifStroke_38 : decode cX6_ifStroke 38 = .ok (.aload_n 0, 1) := by decide +kernel
theorem dX6_ifStroke_39 : decode cX6_ifStroke 39 = .ok (.getfield 16, 3) := by decide +kernel
theorem dX6_ifStroke_42 : decode cX6_ifStroke 42 = .ok (.aload_n 0, 1) := by decide +kernel
theorem dX6_ifStroke_43 : decode cX6_ifStroke 43 = .ok (.getfield 10, 3) := by decide +kernel
theorem dX6_ifStroke_46 : decode cX6_ifStroke 46 = .ok (.invokevirtual 118, 3) := by decide +kernel
theorem dX6_ifStroke_49 : decode cX6_ifStroke 49 = .ok (.aload_n 0, 1) := by decide +kernel
theorem dX6_ifStroke_50 : decode cX6_ifStroke 50 = .ok (.getfield 16, 3) := by decide +kernel
theorem dX6_ifStroke_53 : decode cX6_ifStroke 53 = .ok (.iload_n 1, 1) := by decide +kernel
theorem dX6_ifStroke_54 : decode cX6_ifStroke 54 = .ok (.iload_n 2, 1) := by decide +kernel
theorem dX6_ifStroke_55 : decode cX6_ifStroke 55 = .ok (.aload_n 0, 1) := by decide +kernel
theorem dX6_ifStroke_56 : decode cX6_ifStroke 56 = .ok (.getfield 10, 3) := by decide +kernel
theorem dX6_ifStroke_59 : decode cX6_ifStroke 59 = .ok (.iload_n 1, 1) := by decide +kernel
theorem dX6_ifStroke_60 : decode cX6_ifStroke 60 = .ok (.invokevirtual 89, 3) := by decide +kernel
theorem dX6_ifStroke_63 : decode cX6_ifStroke 63 = .ok (.invokestatic 158, 3) := by decide +kernel
theorem dX6_ifStroke_66 : decode cX6_ifStroke 66 = .ok (.iload_n 3, 1) := by decide +kernel
theorem dX6_ifStroke_67 : decode cX6_ifStroke 67 = .ok (.invokestatic 68, 3) := by decide +kernel
theorem dX6_ifStroke_70 : decode cX6_ifStroke 70 = .ok (.invokevirtual 115, 3) := by decide +kernel
theorem dX6_ifStroke_73 : decode cX6_ifStroke 73 = .ok (.iload 4, 2) := by decide +kernel
theorem dX6_ifStroke_75 : decode cX6_ifStroke 75 = .ok (.iconst 2, 1) := by decide +kernel
theorem dX6_ifStroke_76 : decode cX6_ifStroke 76 = .ok (.if_icmp .ne 31, 3) := by decide +kernel
theorem dX6_ifStroke_79 : decode cX6_ifStroke 79 = .ok (.aload_n 0, 1) := by decide +kernel
theorem dX6_ifStroke_80 : decode cX6_ifStroke 80 = .ok (.getfield 46, 3) := by decide +kernel
theorem dX6_ifStroke_83 : decode cX6_ifStroke 83 = .ok (.aload_n 0, 1) := by decide +kernel
theorem dX6_ifStroke_84 : decode cX6_ifStroke 84 = .ok (.getfield 16, 3) := by decide +kernel
theorem dX6_ifStroke_87 : decode cX6_ifStroke 87 = .ok (.iconst 1, 1) := by decide +kernel
theorem dX6_ifStroke_88 : decode cX6_ifStroke 88 = .ok (.invokevirtual 130, 3) := by decide +kernel
theorem dX6_ifStroke_91 : decode cX6_ifStroke 91 = .ok (.ifCond .eq 13, 3) := by decide +kernel
theorem dX6_ifStroke_94 : decode cX6_ifStroke 94 = .ok (.aload_n 0, 1) := by decide +kernel
theorem dX6_ifStroke_95 : decode cX6_ifStroke 95 = .ok (.getfield 46, 3) := by decide +kernel
theorem dX6_ifStroke_98 : decode cX6_ifStroke 98 = .ok (.invokevirtual 216, 3) := by decide +kernel
theorem dX6_ifStroke_101 : decode cX6_ifStroke 101 = .ok (.goto 5, 3) := by decide +kernel
theorem dX6_ifStroke_104 : decode cX6_ifStroke 104 = .ok (.bipush (-4), 2) := by decide +kernel
theorem dX6_ifStroke_106 : decode cX6_ifStroke 106 = .ok (.ireturn, 1) := by decide +kernel
theorem dX6_ifStroke_107 : decode cX6_ifStroke 107 = .ok (.aload_n 0, 1) := by decide +kernel
theorem dX6_ifStroke_108 : decode cX6_ifStroke 108 = .ok (.getfield 46, 3) := by decide +kernel
theorem dX6_ifStroke_111 : decode cX6_ifStroke 111 = .ok (.aload_n 0, 1) := by decide +kernel
theorem dX6_ifStroke_112 : decode cX6_ifStroke 112 = .ok (.getfield 16, 3) := by decide +kernel
theorem dX6_ifStroke_115 : decode cX6_ifStroke 115 = .ok (.iload 4, 2) := by decide +kernel
theorem dX6_ifStroke_117 : decode cX6_ifStroke 117 = .ok (.iconst 1, 1) := by decide +kernel
theorem dX6_ifStroke_118 : decode cX6_ifStroke 118 = .ok (.if_icmp .ne 7, 3) := by decide +kernel
theorem dX6_ifStroke_121 : decode cX6_ifStroke 121 = .ok (.iconst 1, 1) := by decide +kernel
theorem dX6_ifStroke_122 : decode cX6_ifStroke 122 = .ok (.goto 4, 3) := by decide +kernel
theorem dX6_ifStroke_125 : decode cX6_ifStroke 125 = .ok (.iconst 0, 1) := by decide +kernel
theorem dX6_ifStroke_126 : decode cX6_ifStroke 126 = .ok (.invokevirtual 181, 3) := by decide +kernel
theorem dX6_ifStroke_129 : decode cX6_ifStroke 129 = .ok (.ireturn, 1) := by decide +kernel
set_option maxRecDepth 20000 in
theorem ggX6_quickest_X2_copy : GoodIn wsX6_quickest wsX2_copy := goodIn_r _ [8, 9, 10, 11, 12, 7, 13, 14, 15, 91, 92, 93] (by decide +kernel) (by decide +kernel)
set_option maxRecDepth 20000 in
theorem gX6_quickest_X2_copy : GoodIn wsX6_quickest (wsV RX6 118 RX2 yX2_copy wsX2_copy) := goodIn_app (goodIn_of _ (by decide +kernel)) ggX6_quickest_X2_copy
set_option maxRecDepth 20000 in
theorem ggX6_quickest_X3_canChoose : GoodIn wsX6_quickest wsX3_canChoose := goodIn_r _ [20, 21, 22, 23, 24, 25, 26, 19, 27, 28, 29, 30, 31, 32, 33, 34, 35, 36, 7, 37, 15, 38, 39, 40, 41, 14, 42, 43, 44, 45, 46, 47, 48, 49, 50, 51, 52, 53, 54, 55, 56, 57, 58, 59, 60, 61, 62, 63, 64, 65, 66, 67, 68, 69, 70, 71, 72, 73, 74, 75, 76, 77, 78, 79, 80, 81, 94, 95, 96, 97, 98, 99, 100, 91, 92, 93] (by decide +kernel) (by decide +kernel)
set_option maxRecDepth 20000 in
theorem gX6_quickest_X3_canChoose : GoodIn wsX6_quickest (wsV RX6 130 RX3 yX3_canChoose wsX3_canChoose) := goodIn_app (goodIn_of _ (by decide +kernel)) ggX6_quickest_X3_canChoose
theorem dX6_quickest_0 : decode cX6_quickest 0 = .ok (.aload_n 0, 1) := by decide +kernel
theorem dX6_quickest_1 : decode cX6_quickest 1 = .ok (.getfield 16, 3) := by decide +kernel
theorem dX6_quickest_4 : decode cX6_quickest 4 = .ok (.aload_n 0, 1) := by decide +kernel
theorem dX6_quickest_5 : decode cX6_quickest 5 = .ok (.getfield 10, 3) := by decide +kernel
theorem dX6_quickest_8 : decode cX6_quickest 8 = .ok (.invokevirtual 118, 3) := by decide +kernel
theorem dX6_quickest_11 : decode cX6_quickest 11 = .ok (.iconst 4, 1) := by decide +kernel
theorem dX6_quickest_12 : decode cX6_quickest 12 = .ok (.istore_n 1, 1) := by decide +kernel
theorem dX6_quickest_13 : decode cX6_quickest 13 = .ok (.iload_n 1, 1) := by decide +kernel
theorem dX6_quickest_14 : decode cX6_quickest 14 = .ok (.iconst 1, 1) := by decide +kernel
theorem dX6_quickest_15 : decode cX6_quickest 15 = .ok (.if_icmp .lt 34, 3) := by decide +kernel
theorem dX6_quickest_18 : decode cX6_quickest 18 = .ok (.aload_n 0, 1) := by decide +kernel
theorem dX6_quickest_19 : decode cX6_quickest 19 = .ok (.getfield 16, 3) := by decide +kernel
theorem dX6_quickest_22 : decode cX6_quickest 22 = .ok (.iload_n 1, 1) := by decide +kernel
theorem dX6_quickest_23 : decode cX6_quickest 23 = .ok (.putfield 127, 3) := by decide +kernel
theorem dX6_quickest_26 : decode cX6_quickest 26 = .ok (.aload_n 0, 1) := by decide +kernel
theorem dX6_quickest_27 : decode cX6_quickest 27 = .ok (.getfield 46, 3) := by decide +kernel
theorem dX6_quickest_30 : decode cX6_quickest 30 = .ok (.aload_n 0, 1) := by decide +kernel
theorem dX6_quickest_31 : decode cX6_quickest 31 = .ok (.getfield 16, 3) := by decide +kernel
theorem dX6_quickest_34 : decode cX6_quickest 34 = .ok (.iconst 0, 1) := by decide +kernel
theorem dX6_quickest_35 : decode cX6_quickest 35 = .ok (.invokevirtual 130, 3) := by decide +kernel
theorem dX6_quickest_38 : decode cX6_quickest 38 = .ok (.ifCond .eq 5, 3) := by decide +kernel
theorem dX6_quickest_41 : decode cX6_quickest 41 = .ok (.iload_n 1, 1) := by decide +kernel
theorem dX6_quickest_42 : decode cX6_quickest 42 = .ok (.ireturn, 1) := by decide +kernel
theorem dX6_quickest_43 : decode cX6_quickest 43 = .ok (.iinc 1 (-1), 3) := by decide +kernel
theorem dX6_quickest_46 : decode cX6_quickest 46 = .ok (.goto (-33), 3) := by decide +kernel
theorem dX6_quickest_49 : decode cX6_quickest 49 = .ok (.bipush (-4), 2) := by decide +kernel
theorem dX6_quickest_51 : decode cX6_quickest 51 = .ok (.ireturn, 1) := by decide +kernel
set_option maxRecDepth 20000 in
theorem ggX6_undo_X0_takeBack : GoodIn wsX6_undo wsX0_takeBack := goodIn_r _ [7, 8, 9, 10, 11, 12, 13, 14, 15, 16, 17, 18, 19, 20, 21, 31, 32, 33, 34, 35] (by decide +kernel) (by decide +kernel)
set_option maxRecDepth 20000 in
theorem gX6_undo_X0_takeBack : GoodIn wsX6_undo (wsV RX6 219 RX0 yX0_takeBack wsX0_takeBack) := goodIn_app (goodIn_of _ (by decide +kernel)) ggX6_undo_X0_takeBack
theorem dX6_undo_0 : decode cX6_undo 0 = .ok (.aload_n 0, 1) := by decide +kernel
theorem dX6_undo_1 : decode cX6_undo 1 = .ok (.getfield 25, 3) := by decide +kernel
theorem dX6_undo_4 : decode cX6_undo 4 = .ok (.aload_n 0, 1) := by decide +kernel
theorem dX6_undo_5 : decode cX6_undo 5 = .ok (.getfield 10, 3) := by decide +kernel
theorem dX6_undo_8 : decode cX6_undo 8 = .ok (.invokevirtual 219, 3) := by decide +kernel
theorem dX6_undo_11 : decode cX6_undo 11 = .ok (.ifCond .ne 6, 3) := by decide +kernel
theorem dX6_undo_14 : decode cX6_undo 14 = .ok (.bipush (-2), 2) := by decide +kernel
theorem dX6_undo_16 : decode cX6_undo 16 = .ok (.ireturn, 1) := by decide +kernel
theorem dX6_undo_17 : decode cX6_undo 17 = .ok (.aload_n 0, 1) := by decide +kernel
theorem dX6_undo_18 : decode cX6_undo 18 = .ok (.getfield 25, 3) := by decide +kernel
theorem dX6_undo_21 : decode cX6_undo 21 = .ok (.getfield 207, 3) := by decide +kernel
theorem dX6_undo_24 : decode cX6_undo 24 = .ok (.ireturn, 1) := by decide +kernel
theorem dX6_isHand_0 : decode cX6_isHand 0 = .ok (.iload_n 0, 1) := by decide +kernel
theorem dX6_isHand_1 : decode cX6_isHand 1 = .ok (.ifCond .lt 12, 3) := by decide +kernel
theorem dX6_isHand_4 : decode cX6_isHand 4 = .ok (.iload_n 0, 1) := by decide +kernel
theorem dX6_isHand_5 : decode cX6_isHand 5 = .ok (.iconst 2, 1) := by decide +kernel
theorem dX6_isHand_6 : decode cX6_isHand 6 = .ok (.if_icmp .gt 7, 3) := by decide +kernel
theorem dX6_isHand_9 : decode cX6_isHand 9 = .ok (.iconst 1, 1) := by decide +kernel
theorem dX6_isHand_10 : decode cX6_isHand 10 = .ok (.goto 4, 3) := by decide +kernel
theorem dX6_isHand_13 : decode cX6_isHand 13 = .ok (.iconst 0, 1) := by decide +kernel
theorem dX6_isHand_14 : decode cX6_isHand 14 = .ok (.ireturn, 1) := by decide +kernel
theorem dX6_isOrnament_0 : decode cX6_isOrnament 0 = .ok (.iload_n 0, 1) := by decide +kernel
theorem dX6_isOrnament_1 : decode cX6_isOrnament 1 = .ok (.ifCond .lt 12, 3) := by decide +kernel
theorem dX6_isOrnament_4 : decode cX6_isOrnament 4 = .ok (.iload_n 0, 1) := by decide +kernel
theorem dX6_isOrnament_5 : decode cX6_isOrnament 5 = .ok (.iconst 3, 1) := by decide +kernel
theorem dX6_isOrnament_6 : decode cX6_isOrnament 6 = .ok (.if_icmp .gt 7, 3) := by decide +kernel
theorem dX6_isOrnament_9 : decode cX6_isOrnament 9 = .ok (.iconst 1, 1) := by decide +kernel
theorem dX6_isOrnament_10 : decode cX6_isOrnament 10 = .ok (.goto 4, 3) := by decide +kernel
theorem dX6_isOrnament_13 : decode cX6_isOrnament 13 = .ok (.iconst 0, 1) := by decide +kernel
theorem dX6_isOrnament_14 : decode cX6_isOrnament 14 = .ok (.ireturn, 1) := by decide +kernel
theorem dX6_otherHand_0 : decode cX6_otherHand 0 = .ok (.iload_n 0, 1) := by decide +kernel
theorem dX6_otherHand_1 : decode cX6_otherHand 1 = .ok (.ifCond .ne 7, 3) := by decide +kernel
theorem dX6_otherHand_4 : decode cX6_otherHand 4 = .ok (.iconst 1, 1) := by decide +kernel
theorem dX6_otherHand_5 : decode cX6_otherHand 5 = .ok (.goto 4, 3) := by decide +kernel
theorem dX6_otherHand_8 : decode cX6_otherHand 8 = .ok (.iconst 0, 1) := by decide +kernel
theorem dX6_otherHand_9 : decode cX6_otherHand 9 = .ok (.ireturn, 1) := by decide +kernel
set_option maxRecDepth 20000 in
theorem ggX6_write_X0_remember : GoodIn wsX6_write wsX0_remember := goodIn_r _ [7, 8, 9, 10, 11, 12, 6, 13, 14, 15, 16, 17, 18, 19, 20, 21, 22, 23, 24, 25, 54, 55, 51, 52, 53] (by decide +kernel) (by decide +kernel)
set_option maxRecDepth 20000 in
theorem gX6_write_X0_remember : GoodIn wsX6_write (wsV RX6 85 RX0 yX0_remember wsX0_remember) := goodIn_app (goodIn_of _ (by decide +kernel)) ggX6_write_X0_remember
set_option maxRecDepth 20000 in
theorem ggX6_write_X2_add : GoodIn wsX6_write wsX2_add := goodIn_r _ [29, 25, 24, 30, 31, 32, 17, 33, 51, 52, 53] (by decide +kernel) (by decide +kernel)
set_option maxRecDepth 20000 in
theorem gX6_write_X2_add : GoodIn wsX6_write (wsV RX6 223 RX2 yX2_add wsX2_add) := goodIn_app (goodIn_of _ (by decide +kernel)) ggX6_write_X2_add
set_option maxRecDepth 20000 in
theorem ggX6_write_X2_change : GoodIn wsX6_write wsX2_change := goodIn_r _ [37, 25, 38, 39, 40, 17, 41, 24, 51, 52, 53] (by decide +kernel) (by decide +kernel)
set_option maxRecDepth 20000 in
theorem gX6_write_X2_change : GoodIn wsX6_write (wsV RX6 115 RX2 yX2_change wsX2_change) := goodIn_app (goodIn_of _ (by decide +kernel)) ggX6_write_X2_change
theorem dX6_write_0 : decode cX6_write 0 = .ok (.iload_n 1, 1) := by decide +kernel
theorem dX6_write_1 : decode cX6_write 1 = .ok (.bipush 32, 2) := by decide +kernel
theorem dX6_write_3 : decode cX6_write 3 = .ok (.if_icmp .ne 6, 3) := by decide +kernel
theorem dX6_write_6 : decode cX6_write 6 = .ok (.bipush (-3), 2) := by decide +kernel
theorem dX6_write_8 : decode cX6_write 8 = .ok (.ireturn, 1) := by decide +kernel
theorem dX6_write_9 : decode cX6_write 9 = .ok (.aload_n 0, 1) := by decide +kernel
theorem dX6_write_10 : decode cX6_write 10 = .ok (.getfield 25, 3) := by decide +kernel
theorem dX6_write_13 : decode cX6_write 13 = .ok (.aload_n 0, 1) := by decide +kernel
theorem dX6_write_14 : decode cX6_write 14 = .ok (.getfield 10, 3) := by decide +kernel
theorem dX6_write_17 : decode cX6_write 17 = .ok (.invokevirtual 85, 3) := by decide +kernel
theorem dX6_write_20 : decode cX6_write 20 = .ok (.iload_n 1, 1) := by decide +kernel
theorem dX6_write_21 : decode cX6_write 21 = .ok (.aload_n 0, 1) := by decide +kernel
theorem dX6_write_22 : decode cX6_write 22 = .ok (.getfield 10, 3) := by decide +kernel
theorem dX6_write_25 : decode cX6_write 25 = .ok (.getfield 97, 3) := by decide +kernel
theorem dX6_write_28 : decode cX6_write 28 = .ok (.if_icmp .ne 15, 3) := by decide +kernel
theorem dX6_write_31 : decode cX6_write 31 = .ok (.aload_n 0, 1) := by decide +kernel
theorem dX6_write_32 : decode cX6_write 32 = .ok (.getfield 10, 3) := by decide +kernel
theorem dX6_write_35 : decode cX6_write 35 = .ok (.iload_n 2, 1) := by decide +kernel
theorem dX6_write_36 : decode cX6_write 36 = .ok (.invokevirtual 223, 3) := by decide +kernel
theorem dX6_write_39 : decode cX6_write 39 = .ok (.pop, 1) := by decide +kernel
theorem dX6_write_40 : decode cX6_write 40 = .ok (.goto 12, 3) := by decide +kernel
theorem dX6_write_43 : decode cX6_write 43 = .ok (.aload_n 0, 1) := by decide +kernel
theorem dX6_write_44 : decode cX6_write 44 = .ok (.getfield 10, 3) := by decide +kernel
theorem dX6_write_47 : decode cX6_write 47 = .ok (.iload_n 1, 1) := by decide +kernel
theorem dX6_write_48 : decode cX6_write 48 = .ok (.iload_n 2, 1) := by decide +kernel
theorem dX6_write_49 : decode cX6_write 49 = .ok (.invokevirtual 115, 3) := by decide +kernel
theorem dX6_write_52 : decode cX6_write 52 = .ok (.aload_n 0, 1) := by decide +kernel
theorem dX6_write_53 : decode cX6_write 53 = .ok (.getfield 10, 3) := by decide +kernel
theorem dX6_write_56 : decode cX6_write 56 = .ok (.getfield 97, 3) := by decide +kernel
theorem dX6_write_59 : decode cX6_write 59 = .ok (.ireturn, 1) := by decide +kernel
set_option maxRecDepth 20000 in
theorem ggX6_playedHand_X2_at : GoodIn wsX6_playedHand wsX2_at := goodIn_r _ [7, 8, 9, 10, 11, 6, 12, 13, 87, 88, 89] (by decide +kernel) (by decide +kernel)
set_option maxRecDepth 20000 in
theorem gX6_playedHand_X2_at : GoodIn wsX6_playedHand (wsV RX6 89 RX2 yX2_at wsX2_at) := goodIn_app (goodIn_of _ (by decide +kernel)) ggX6_playedHand_X2_at
set_option maxRecDepth 20000 in
theorem ggX6_playedHand_X5_isStroke : GoodIn wsX6_playedHand wsX5_isStroke := goodIn_r _ [17] (by decide +kernel) (by decide +kernel)
set_option maxRecDepth 20000 in
theorem gX6_playedHand_X5_isStroke : GoodIn wsX6_playedHand (va_wsS RX6 103 yX5_isStroke wsX5_isStroke) := goodIn_app (goodIn_of _ (by decide +kernel)) ggX6_playedHand_X5_isStroke
set_option maxRecDepth 20000 in
theorem ggX6_playedHand_X3_canChoose : GoodIn wsX6_playedHand wsX3_canChoose := goodIn_r _ [22, 23, 24, 25, 26, 27, 28, 21, 29, 30, 31, 32, 33, 34, 35, 36, 4, 5, 6, 7, 8, 9, 10, 11, 12, 13, 37, 15, 16, 17, 38, 39, 40, 41, 42, 43, 44, 45, 46, 47, 48, 49, 50, 51, 52, 53, 54, 55, 56, 57, 58, 59, 60, 61, 62, 63, 64, 65, 66, 67, 68, 69, 70, 71, 72, 73, 90, 91, 92, 93, 94, 95, 96, 87, 88, 89] (by decide +kernel) (by decide +kernel)
set_option maxRecDepth 20000 in
theorem gX6_playedHand_X3_canChoose : GoodIn wsX6_playedHand (wsV RX6 130 RX3 yX3_canChoose wsX3_canChoose) := goodIn_app (goodIn_of _ (by decide +kernel)) ggX6_playedHand_X3_canChoose
set_option maxRecDepth 20000 in
theorem ggX6_playedHand_X3_handAt : GoodIn wsX6_playedHand wsX3_handAt := goodIn_r _ [77, 23, 25, 90, 91, 92, 93, 94, 95, 96] (by decide +kernel) (by decide +kernel)
set_option maxRecDepth 20000 in
theorem gX6_playedHand_X3_handAt : GoodIn wsX6_playedHand (wsV RX6 134 RX3 yX3_handAt wsX3_handAt) := goodIn_app (goodIn_of _ (by decide +kernel)) ggX6_playedHand_X3_handAt
theorem dX6_playedHand_0 : decode cX6_playedHand 0 = .ok (.aload_n 0, 1) := by decide +kernel
theorem dX6_playedHand_1 : decode cX6_playedHand 1 = .ok (.getfield 10, 3) := by decide +kernel
theorem dX6_playedHand_4 : decode cX6_playedHand 4 = .ok (.iload_n 1, 1) := by decide +kernel
theorem dX6_playedHand_5 : decode cX6_playedHand 5 = .ok (.invokevirtual 89, 3) := by decide +kernel
theorem dX6_playedHand_8 : decode cX6_playedHand 8 = .ok (.invokestatic 103, 3) := by decide +kernel
theorem dX6_playedHand_11 : decode cX6_playedHand 11 = .ok (.ifCond .eq 18, 3) := by decide +kernel
theorem dX6_playedHand_14 : decode cX6_playedHand 14 = .ok (.aload_n 0, 1) := by decide +kernel
theorem dX6_playedHand_15 : decode cX6_playedHand 15 = .ok (.getfield 46, 3) := by decide +kernel
theorem dX6_playedHand_18 : decode cX6_playedHand 18 = .ok (.aload_n 0, 1) := by decide +kernel
theorem dX6_playedHand_19 : decode cX6_playedHand 19 = .ok (.getfield 10, 3) := by decide +kernel
theorem dX6_playedHand_22 : decode cX6_playedHand 22 = .ok (.iload_n 2, 1) := by decide +kernel
theorem dX6_playedHand_23 : decode cX6_playedHand 23 = .ok (.invokevirtual 130, 3) := by decide +kernel
theorem dX6_playedHand_26 : decode cX6_playedHand 26 = .ok (.ifCond .ne 6, 3) := by decide +kernel
theorem dX6_playedHand_29 : decode cX6_playedHand 29 = .ok (.bipush (-4), 2) := by decide +kernel
theorem dX6_playedHand_31 : decode cX6_playedHand 31 = .ok (.ireturn, 1) := by decide +kernel
theorem dX6_playedHand_32 : decode cX6_playedHand 32 = .ok (.aload_n 0, 1) := by decide +kernel
theorem dX6_playedHand_33 : decode cX6_playedHand 33 = .ok (.getfield 46, 3) := by decide +kernel
theorem dX6_playedHand_36 : decode cX6_playedHand 36 = .ok (.iload_n 1, 1) := by decide +kernel
theorem dX6_playedHand_37 : decode cX6_playedHand 37 = .ok (.invokevirtual 134, 3) := by decide +kernel
theorem dX6_playedHand_40 : decode cX6_playedHand 40 = .ok (.ireturn, 1) := by decide +kernel
