theorem dX7_comes_100 : decode cX7_comes 100 = .ok (.iconst 1, 1) := by decide +kernel
theorem dX7_comes_101 : decode cX7_comes 101 = .ok (.goto 4, 3) := by decide +kernel
theorem dX7_comes_104 : decode cX7_comes 104 = .ok (.iconst 0, 1) := by decide +kernel
theorem dX7_comes_105 : decode cX7_comes 105 = .ok (.istore_n 2, 1) := by decide +kernel
theorem dX7_comes_106 : decode cX7_comes 106 = .ok (.iinc 3 1, 3) := by decide +kernel
theorem dX7_comes_109 : decode cX7_comes 109 = .ok (.goto (-86), 3) := by decide +kernel
theorem dX7_comes_112 : decode cX7_comes 112 = .ok (.iload_n 2, 1) := by decide +kernel
theorem dX7_comes_113 : decode cX7_comes 113 = .ok (.ireturn, 1) := by decide +kernel
set_option maxRecDepth 20000 in
theorem ggX7_patterns_X7_readPattern : GoodIn wsX7_patterns wsX7_readPattern := goodIn_r _ [6, 7, 8, 9, 10, 5, 11, 75, 76, 77, 78, 79, 80, 81, 82, 83, 84, 85, 86, 87, 88, 89, 90, 91] (by decide +kernel) (by decide +kernel)
set_option maxRecDepth 20000 in
theorem gX7_patterns_X7_readPattern : GoodIn wsX7_patterns (wsV RX7 154 RX7 yX7_readPattern wsX7_readPattern) := goodIn_app (goodIn_of _ (by decide +kernel)) ggX7_patterns_X7_readPattern
set_option maxRecDepth 20000 in
theorem ggX7_patterns_X7_stick : GoodIn wsX7_patterns wsX7_stick := goodIn_r _ [15, 1, 16, 17, 18, 19, 20, 5, 21, 22, 23, 24, 25, 26, 27, 28, 29, 30, 31, 32, 33, 34, 35, 36, 37, 38, 39, 40, 41, 42, 43, 44, 45, 46, 47, 48, 49, 50, 51, 52, 53, 54, 55, 56, 57, 58, 59, 60, 61, 62, 63, 64, 65, 66, 67, 68, 69, 70, 75, 76, 77, 78, 79, 80, 81, 82, 83, 84, 85, 86, 87, 88, 89, 90, 91] (by decide +kernel) (by decide +kernel)
set_option maxRecDepth 20000 in
theorem gX7_patterns_X7_stick : GoodIn wsX7_patterns (wsV RX7 129 RX7 yX7_stick wsX7_stick) := goodIn_app (goodIn_of _ (by decide +kernel)) ggX7_patterns_X7_stick
set_option maxRecDepth 20000 in
theorem ggX7_patterns_X7_comes : GoodIn wsX7_patterns wsX7_comes := goodIn_r _ [74, 7, 1, 8, 16, 9, 10, 5, 11, 35, 36, 37, 38, 39, 40, 41, 42, 75, 76, 77, 78, 79, 80, 81, 82, 83, 84, 85, 86, 87, 88, 89, 90, 91] (by decide +kernel) (by decide +kernel)
set_option maxRecDepth 20000 in
theorem gX7_patterns_X7_comes : GoodIn wsX7_patterns (wsV RX7 186 RX7 yX7_comes wsX7_comes) := goodIn_app (goodIn_of _ (by decide +kernel)) ggX7_patterns_X7_comes
theorem dX7_patterns_0 : decode cX7_patterns 0 = .ok (.aload_n 0, 1) := by decide +kernel
theorem dX7_patterns_1 : decode cX7_patterns 1 = .ok (.invokevirtual 154, 3) := by decide +kernel
theorem dX7_patterns_4 : decode cX7_patterns 4 = .ok (.bipush (-4), 2) := by decide +kernel
theorem dX7_patterns_6 : decode cX7_patterns 6 = .ok (.if_icmp .ne 11, 3) := by decide +kernel
theorem dX7_patterns_9 : decode cX7_patterns 9 = .ok (.aload_n 0, 1) := by decide +kernel
theorem dX7_patterns_10 : decode cX7_patterns 10 = .ok (.iconst 1, 1) := by decide +kernel
theorem dX7_patterns_11 : decode cX7_patterns 11 = .ok (.invokevirtual 129, 3) := by decide +kernel
theorem dX7_patterns_14 : decode cX7_patterns 14 = .ok (.ifCond .ne 6, 3) := by decide +kernel
theorem dX7_patterns_17 : decode cX7_patterns 17 = .ok (.bipush (-2), 2) := by decide +kernel
theorem dX7_patterns_19 : decode cX7_patterns 19 = .ok (.ireturn, 1) := by decide +kernel
theorem dX7_patterns_20 : decode cX7_patterns 20 = .ok (.iconst 0, 1) := by decide +kernel
theorem dX7_patterns_21 : decode cX7_patterns 21 = .ok (.istore_n 1, 1) := by decide +kernel
theorem dX7_patterns_22 : decode cX7_patterns 22 = .ok (.iconst 0, 1) := by decide +kernel
theorem dX7_patterns_23 : decode cX7_patterns 23 = .ok (.istore_n 2, 1) := by decide +kernel
theorem dX7_patterns_24 : decode cX7_patterns 24 = .ok (.iload_n 2, 1) := by decide +kernel
theorem dX7_patterns_25 : decode cX7_patterns 25 = .ok (.aload_n 0, 1) := by decide +kernel
theorem dX7_patterns_26 : decode cX7_patterns 26 = .ok (.getfield 7, 3) := by decide +kernel
theorem dX7_patterns_29 : decode cX7_patterns 29 = .ok (.iconst 0, 1) := by decide +kernel
theorem dX7_patterns_30 : decode cX7_patterns 30 = .ok (.iaload, 1) := by decide +kernel
theorem dX7_patterns_31 : decode cX7_patterns 31 = .ok (.if_icmp .ge 25, 3) := by decide +kernel
theorem dX7_patterns_34 : decode cX7_patterns 34 = .ok (.iload_n 1, 1) := by decide +kernel
theorem dX7_patterns_35 : decode cX7_patterns 35 = .ok (.aload_n 0, 1) := by decide +kernel
theorem dX7_patterns_36 : decode cX7_patterns 36 = .ok (.iload_n 2, 1) := by decide +kernel
theorem dX7_patterns_37 : decode cX7_patterns 37 = .ok (.invokevirtual 186, 3) := by decide +kernel
theorem dX7_patterns_40 : decode cX7_patterns 40 = .ok (.ifCond .eq 7, 3) := by decide +kernel
theorem dX7_patterns_43 : decode cX7_patterns 43 = .ok (.iconst 1, 1) := by decide +kernel
theorem dX7_patterns_44 : decode cX7_patterns 44 = .ok (.goto 4, 3) := by decide +kernel
theorem dX7_patterns_47 : decode cX7_patterns 47 = .ok (.iconst 0, 1) := by decide +kernel
theorem dX7_patterns_48 : decode cX7_patterns 48 = .ok (.iadd, 1) := by decide +kernel
theorem dX7_patterns_49 : decode cX7_patterns 49 = .ok (.istore_n 1, 1) := by decide +kernel
theorem dX7_patterns_50 : decode cX7_patterns 50 = .ok (.iinc 2 1, 3) := by decide +kernel
theorem dX7_patterns_53 : decode cX7_patterns 53 = .ok (.goto (-29), 3) := by decide +kernel
theorem dX7_patterns_56 : decode cX7_patterns 56 = .ok (.iload_n 1, 1) := by decide +kernel
theorem dX7_patterns_57 : decode cX7_patterns 57 = .ok (.ireturn, 1) := by decide +kernel
set_option maxRecDepth 20000 in
theorem ggX7_ifStroke_X7_isStep : GoodIn wsX7_ifStroke wsX7_isStep := goodIn_r _ [7, 1, 8, 9, 6, 10, 84, 85, 86, 87, 88, 89, 90, 91, 92, 93, 94, 95, 96, 97, 98, 99, 100] (by decide +kernel) (by decide +kernel)
set_option maxRecDepth 20000 in
theorem gX7_ifStroke_X7_isStep : GoodIn wsX7_ifStroke (wsV RX7 126 RX7 yX7_isStep wsX7_isStep) := goodIn_app (goodIn_of _ (by decide +kernel)) ggX7_ifStroke_X7_isStep
set_option maxRecDepth 20000 in
theorem ggX7_ifStroke_X7_in : GoodIn wsX7_ifStroke wsX7_in := goodIn_r _ [10] (by decide +kernel) (by decide +kernel)
set_option maxRecDepth 20000 in
theorem gX7_ifStroke_X7_in : GoodIn wsX7_ifStroke (va_wsS RX7 47 yX7_in wsX7_in) := goodIn_app (goodIn_of _ (by decide +kernel)) ggX7_ifStroke_X7_in
set_option maxRecDepth 20000 in
theorem ggX7_ifStroke_X7_at : GoodIn wsX7_ifStroke wsX7_at := goodIn_r _ [14, 1, 84, 85, 86, 87, 88, 89, 90, 91, 92, 93, 94, 95, 96, 97, 98, 99, 100] (by decide +kernel) (by decide +kernel)
set_option maxRecDepth 20000 in
theorem gX7_ifStroke_X7_at : GoodIn wsX7_ifStroke (wsV RX7 51 RX7 yX7_at wsX7_at) := goodIn_app (goodIn_of _ (by decide +kernel)) ggX7_ifStroke_X7_at
set_option maxRecDepth 20000 in
theorem ggX7_ifStroke_X7_accent : GoodIn wsX7_ifStroke wsX7_accent := goodIn_r _ [18, 19, 20, 21, 6, 22, 11, 12, 13, 14, 1, 84, 85, 86, 87, 88, 89, 90, 91, 92, 93, 94, 95, 96, 97, 98, 99, 100] (by decide +kernel) (by decide +kernel)
set_option maxRecDepth 20000 in
theorem gX7_ifStroke_X7_accent : GoodIn wsX7_ifStroke (wsV RX7 66 RX7 yX7_accent wsX7_accent) := goodIn_app (goodIn_of _ (by decide +kernel)) ggX7_ifStroke_X7_accent
set_option maxRecDepth 20000 in
theorem ggX7_ifStroke_X7_code : GoodIn wsX7_ifStroke wsX7_code := goodIn_r _ [25] (by decide +kernel) (by decide +kernel)
set_option maxRecDepth 20000 in
theorem gX7_ifStroke_X7_code : GoodIn wsX7_ifStroke (va_wsS RX7 120 yX7_code wsX7_code) := goodIn_app (goodIn_of _ (by decide +kernel)) ggX7_ifStroke_X7_code
set_option maxRecDepth 20000 in
theorem ggX7_ifStroke_X7_stickingsOnce : GoodIn wsX7_ifStroke wsX7_stickingsOnce := goodIn_r _ [29, 30, 31, 32, 33, 6, 34, 1, 2, 35, 36, 37, 38, 39, 40, 41, 42, 19, 20, 21, 22, 11, 12, 13, 14, 43, 44, 45, 46, 47, 48, 49, 50, 51, 52, 53, 54, 55, 56, 57, 58, 59, 60, 61, 62, 63, 64, 65, 66, 67, 68, 69, 70, 71, 72, 73, 74, 75, 84, 85, 86, 87, 88, 89, 90, 91, 92, 93, 94, 95, 96, 97, 98, 99, 100] (by decide +kernel) (by decide +kernel)
set_option maxRecDepth 20000 in
theorem gX7_ifStroke_X7_stickingsOnce : GoodIn wsX7_ifStroke (wsV RX7 113 RX7 yX7_stickingsOnce wsX7_stickingsOnce) := goodIn_app (goodIn_of _ (by decide +kernel)) ggX7_ifStroke_X7_stickingsOnce
set_option maxRecDepth 20000 in
theorem ggX7_ifStroke_X7_stickingsOver : GoodIn wsX7_ifStroke wsX7_stickingsOver := goodIn_r _ [79, 1, 30, 19, 20, 21, 6, 22, 11, 12, 13, 14, 26, 27, 28, 29, 31, 32, 33, 34, 2, 35, 36, 37, 38, 39, 40, 41, 42, 43, 44, 45, 46, 47, 48, 49, 50, 51, 52, 53, 54, 55, 56, 57, 58, 59, 60, 61, 62, 63, 64, 65, 66, 67, 68, 69, 70, 71, 72, 73, 74, 75, 84, 85, 86, 87, 88, 89, 90, 91, 92, 93, 94, 95, 96, 97, 98, 99, 100] (by decide +kernel) (by decide +kernel)
set_option maxRecDepth 20000 in
theorem gX7_ifStroke_X7_stickingsOver : GoodIn wsX7_ifStroke (wsV RX7 169 RX7 yX7_stickingsOver wsX7_stickingsOver) := goodIn_app (goodIn_of _ (by decide +kernel)) ggX7_ifStroke_X7_stickingsOver
set_option maxRecDepth 20000 in
theorem ggX7_ifStroke_X7_canBePlayed : GoodIn wsX7_ifStroke wsX7_canBePlayed := goodIn_r _ [83, 2, 31, 32, 33, 6, 34, 1, 30, 35, 36, 37, 38, 39, 40, 41, 42, 19, 20, 21, 22, 11, 12, 13, 14, 43, 44, 45, 46, 47, 48, 49, 50, 51, 52, 53, 54, 55, 56, 57, 58, 59, 60, 61, 62, 63, 64, 65, 66, 67, 68, 69, 70, 84, 85, 86, 87, 88, 89, 90, 91, 92, 93, 94, 95, 96, 97, 98, 99, 100] (by decide +kernel) (by decide +kernel)
set_option maxRecDepth 20000 in
theorem gX7_ifStroke_X7_canBePlayed : GoodIn wsX7_ifStroke (wsV RX7 102 RX7 yX7_canBePlayed wsX7_canBePlayed) := goodIn_app (goodIn_of _ (by decide +kernel)) ggX7_ifStroke_X7_canBePlayed
theorem dX7_ifStroke_0 : decode cX7_ifStroke 0 = .ok (.aload_n 0, 1) := by decide +kernel
theorem dX7_ifStroke_1 : decode cX7_ifStroke 1 = .ok (.iload_n 1, 1) := by decide +kernel
theorem dX7_ifStroke_2 : decode cX7_ifStroke 2 = .ok (.invokevirtual 126, 3) := by decide +kernel
theorem dX7_ifStroke_5 : decode cX7_ifStroke 5 = .ok (.ifCond .eq 31, 3) := by decide +kernel
theorem dX7_ifStroke_8 : decode cX7_ifStroke 8 = .ok (.iload_n 2, 1) := by decide +kernel
theorem dX7_ifStroke_9 : decode cX7_ifStroke 9 = .ok (.iconst 0, 1) := by decide +kernel
theorem dX7_ifStroke_10 : decode cX7_ifStroke 10 = .ok (.iconst 2, 1) := by decide +kernel
theorem dX7_ifStroke_11 : decode cX7_ifStroke 11 = .ok (.invokestatic 47, 3) := by decide +kernel
theorem dX7_ifStroke_14 : decode cX7_ifStroke 14 = .ok (.ifCond .eq 22, 3) := by decide +kernel
theorem dX7_ifStroke_17 : decode cX7_ifStroke 17 = .ok (.iload_n 3, 1) := by decide +kernel
theorem dX7_ifStroke_18 : decode cX7_ifStroke 18 = .ok (.iconst 0, 1) := by decide +kernel
theorem dX7_ifStroke_19 : decode cX7_ifStroke 19 = .ok (.iconst 3, 1) := by decide +kernel
theorem dX7_ifStroke_20 : decode cX7_ifStroke 20 = .ok (.invokestatic 47, 3) := by decide +kernel
theorem dX7_ifStroke_23 : decode cX7_ifStroke 23 = .ok (.ifCond .eq 13, 3) := by decide +kernel
theorem dX7_ifStroke_26 : decode cX7_ifStroke 26 = .ok (.iload 4, 2) := by decide +kernel
theorem dX7_ifStroke_28 : decode cX7_ifStroke 28 = .ok (.iconst 0, 1) := by decide +kernel
theorem dX7_ifStroke_29 : decode cX7_ifStroke 29 = .ok (.iconst 2, 1) := by decide +kernel
theorem dX7_ifStroke_30 : decode cX7_ifStroke 30 = .ok (.invokestatic 47, 3) := by decide +kernel
theorem dX7_ifStroke_33 : decode cX7_ifStroke 33 = .ok (.ifCond .ne 5, 3) := by decide +kernel
theorem dX7_ifStroke_36 : decode cX7_ifStroke 36 = .ok (.iconst (-1), 1) := by decide +kernel
theorem dX7_ifStroke_37 : decode cX7_ifStroke 37 = .ok (.ireturn, 1) := by decide +kernel
theorem dX7_ifStroke_38 : decode cX7_ifStroke 38 = .ok (.aload_n 0, 1) := by decide +kernel
theorem dX7_ifStroke_39 : decode cX7_ifStroke 39 = .ok (.iload_n 1, 1) := by decide +kernel
theorem dX7_ifStroke_40 : decode cX7_ifStroke 40 = .ok (.invokevirtual 51, 3) := by decide +kernel
theorem dX7_ifStroke_43 : decode cX7_ifStroke 43 = .ok (.istore 5, 2) := by decide +kernel
theorem dX7_ifStroke_45 : decode cX7_ifStroke 45 = .ok (.aload_n 0, 1) := by decide +kernel
theorem dX7_ifStroke_46 : decode cX7_ifStroke 46 = .ok (.getfield 7, 3) := by decide +kernel
theorem dX7_ifStroke_49 : decode cX7_ifStroke 49 = .ok (.iconst 2, 1) := by decide +kernel
theorem dX7_ifStroke_50 : decode cX7_ifStroke 50 = .ok (.iload_n 1, 1) := by decide +kernel
theorem dX7_ifStroke_51 : decode cX7_ifStroke 51 = .ok (.iadd, 1) := by decide +kernel
theorem dX7_ifStroke_52 : decode cX7_ifStroke 52 = .ok (.iload_n 2, 1) := by decide +kernel
theorem dX7_ifStroke_53 : decode cX7_ifStroke 53 = .ok (.aload_n 0, 1) := by decide +kernel
theorem dX7_ifStroke_54 : decode cX7_ifStroke 54 = .ok (.iload_n 1, 1) := by decide +kernel
theorem dX7_ifStroke_55 : decode cX7_ifStroke 55 = .ok (.invokevirtual 66, 3) := by decide +kernel
theorem dX7_ifStroke_58 : decode cX7_ifStroke 58 = .ok (.iload_n 3, 1) := by decide +kernel
theorem dX7_ifStroke_59 : decode cX7_ifStroke 59 = .ok (.invokestatic 120, 3) := by decide +kernel
theorem dX7_ifStroke_62 : decode cX7_ifStroke 62 = .ok (.iastore, 1) := by decide +kernel
theorem dX7_ifStroke_63 : decode cX7_ifStroke 63 = .ok (.iload 4, 2) := by decide +kernel
theorem dX7_ifStroke_65 : decode cX7_ifStroke 65 = .ok (.ifCond .ne 10, 3) := by decide +kernel
theorem dX7_ifStroke_68 : decode cX7_ifStroke 68 = .ok (.aload_n 0, 1) := by decide +kernel
theorem dX7_ifStroke_69 : decode cX7_ifStroke 69 = .ok (.invokevirtual 113, 3) := by decide +kernel
theorem dX7_ifStroke_72 : decode cX7_ifStroke 72 = .ok (.goto 34, 3) := by decide +kernel
theorem dX7_ifStroke_75 : decode cX7_ifStroke 75 = .ok (.iload 4, 2) := by decide +kernel
theorem dX7_ifStroke_77 : decode cX7_ifStroke 77 = .ok (.iconst 1, 1) := by decide +kernel
theorem dX7_ifStroke_78 : decode cX7_ifStroke 78 = .ok (.if_icmp .ne 10, 3) := by decide +kernel
theorem dX7_ifStroke_81 : decode cX7_ifStroke 81 = .ok (.aload_n 0, 1) := by decide +kernel
theorem dX7_ifStroke_82 : decode cX7_ifStroke 82 = .ok (.invokevirtual 169, 3) := by decide +kernel
theorem dX7_ifStroke_85 : decode cX7_ifStroke 85 = .ok (.goto 21, 3) := by decide +kernel
theorem dX7_ifStroke_88 : decode cX7_ifStroke 88 = .ok (.aload_n 0, 1) := by decide +kernel
theorem dX7_ifStroke_89 : decode cX7_ifStroke 89 = .ok (.invokevirtual 102, 3) := by decide +kernel
theorem dX7_ifStroke_92 : decode cX7_ifStroke 92 = .ok (.ifCond .eq 12, 3) := by decide +kernel
theorem dX7_ifStroke_95 : decode cX7_ifStroke 95 = .ok (.aload_n 0, 1) := by decide +kernel
theorem dX7_ifStroke_96 : decode cX7_ifStroke 96 = .ok (.getfield 22, 3) := by decide +kernel
theorem dX7_ifStroke_99 : decode cX7_ifStroke 99 = .ok (.iconst 2, 1) := by decide +kernel
theorem dX7_ifStroke_100 : decode cX7_ifStroke 100 = .ok (.iaload, 1) := by decide +kernel
theorem dX7_ifStroke_101 : decode cX7_ifStroke 101 = .ok (.goto 5, 3) := by decide +kernel
theorem dX7_ifStroke_104 : decode cX7_ifStroke 104 = .ok (.bipush (-4), 2) := by decide +kernel
theorem dX7_ifStroke_106 : decode cX7_ifStroke 106 = .ok (.istore 6, 2) := by decide +kernel
theorem dX7_ifStroke_108 : decode cX7_ifStroke 108 = .ok (.aload_n 0, 1) := by decide +kernel
theorem dX7_ifStroke_109 : decode cX7_ifStroke 109 = .ok (.getfield 7, 3) := by decide +kernel
theorem dX7_ifStroke_112 : decode cX7_ifStroke 112 = .ok (.iconst 2, 1) := by decide +kernel
theorem dX7_ifStroke_113 : decode cX7_ifStroke 113 = .ok (.iload_n 1, 1) := by decide +kernel
theorem dX7_ifStroke_114 : decode cX7_ifStroke 114 = .ok (.iadd, 1) := by decide +kernel
theorem dX7_ifStroke_115 : decode cX7_ifStroke 115 = .ok (.iload 5, 2) := by decide +kernel
theorem dX7_ifStroke_117 : decode cX7_ifStroke 117 = .ok (.iastore, 1) := by decide +kernel
theorem dX7_ifStroke_118 : decode cX7_ifStroke 118 = .ok (.iload 6, 2) := by decide +kernel
theorem dX7_ifStroke_120 : decode cX7_ifStroke 120 = .ok (.ireturn, 1) := by decide +kernel
set_option maxRecDepth 20000 in
theorem ggX7_quickest_X7_canBePlayed : GoodIn wsX7_quickest wsX7_canBePlayed := goodIn_r _ [6, 7, 8, 9, 10, 5, 11, 1, 12, 13, 14, 15, 16, 17, 18, 19, 20, 21, 22, 23, 24, 25, 26, 27, 28, 29, 30, 31, 32, 33, 34, 35, 36, 37, 38, 39, 40, 41, 42, 43, 44, 45, 46, 47, 48, 49, 50, 51, 52, 53, 54, 55, 56, 57, 58, 59, 60, 61, 62, 63, 64, 65, 66, 67, 68, 69, 70, 71, 72, 73] (by decide +kernel) (by decide +kernel)
set_option maxRecDepth 20000 in
theorem gX7_quickest_X7_canBePlayed : GoodIn wsX7_quickest (wsV RX7 102 RX7 yX7_canBePlayed wsX7_canBePlayed) := goodIn_app (goodIn_of _ (by decide +kernel)) ggX7_quickest_X7_canBePlayed
theorem dX7_quickest_0 : decode cX7_quickest 0 = .ok (.aload_n 0, 1) := by decide +kernel
theorem dX7_quickest_1 : decode cX7_quickest 1 = .ok (.getfield 7, 3) := by decide +kernel
theorem dX7_quickest_4 : decode cX7_quickest 4 = .ok (.iconst 1, 1) := by decide +kernel
theorem dX7_quickest_5 : decode cX7_quickest 5 = .ok (.iaload, 1) := by decide +kernel
theorem dX7_quickest_6 : decode cX7_quickest 6 = .ok (.istore_n 1, 1) := by decide +kernel
theorem dX7_quickest_7 : decode cX7_quickest 7 = .ok (.bipush (-4), 2) := by decide +kernel
theorem dX7_quickest_9 : decode cX7_quickest 9 = .ok (.istore_n 2, 1) := by decide +kernel
theorem dX7_quickest_10 : decode cX7_quickest 10 = .ok (.iconst 1, 1) := by decide +kernel
theorem dX7_quickest_11 : decode cX7_quickest 11 = .ok (.istore_n 3, 1) := by decide +kernel
theorem dX7_quickest_12 : decode cX7_quickest 12 = .ok (.iload_n 3, 1) := by decide +kernel
theorem dX7_quickest_13 : decode cX7_quickest 13 = .ok (.iconst 4, 1) := by decide +kernel
theorem dX7_quickest_14 : decode cX7_quickest 14 = .ok (.if_icmp .gt 29, 3) := by decide +kernel
theorem dX7_quickest_17 : decode cX7_quickest 17 = .ok (.aload_n 0, 1) := by decide +kernel
theorem dX7_quickest_18 : decode cX7_quickest 18 = .ok (.getfield 7, 3) := by decide +kernel
theorem dX7_quickest_21 : decode cX7_quickest 21 = .ok (.iconst 1, 1) := by decide +kernel
theorem dX7_quickest_22 : decode cX7_quickest 22 = .ok (.iload_n 3, 1) := by decide +kernel
theorem dX7_quickest_23 : decode cX7_quickest 23 = .ok (.iastore, 1) := by decide +kernel
theorem dX7_quickest_24 : decode cX7_quickest 24 = .ok (.aload_n 0, 1) := by decide +kernel
theorem dX7_quickest_25 : decode cX7_quickest 25 = .ok (.invokevirtual 102, 3) := by decide +kernel
theorem dX7_quickest_28 : decode cX7_quickest 28 = .ok (.ifCond .eq 7, 3) := by decide +kernel
theorem dX7_quickest_31 : decode cX7_quickest 31 = .ok (.iload_n 3, 1) := by decide +kernel
theorem dX7_quickest_32 : decode cX7_quickest 32 = .ok (.goto 4, 3) := by decide +kernel
theorem dX7_quickest_35 : decode cX7_quickest 35 = .ok (.iload_n 2, 1) := by decide +kernel
theorem dX7_quickest_36 : decode cX7_quickest 36 = .ok (.istore_n 2, 1) := by decide +kernel
theorem dX7_quickest_37 : decode cX7_quickest 37 = .ok (.iinc 3 1, 3) := by decide +kernel
theorem dX7_quickest_40 : decode cX7_quickest 40 = .ok (.goto (-28), 3) := by decide +kernel
theorem dX7_quickest_43 : decode cX7_quickest 43 = .ok (.aload_n 0, 1) := by decide +kernel
theorem dX7_quickest_44 : decode cX7_quickest 44 = .ok (.getfield 7, 3) := by decide +kernel
theorem dX7_quickest_47 : decode cX7_quickest 47 = .ok (.iconst 1, 1) := by decide +kernel
theorem dX7_quickest_48 : decode cX7_quickest 48 = .ok (.iload_n 1, 1) := by decide +kernel
theorem dX7_quickest_49 : decode cX7_quickest 49 = .ok (.iastore, 1) := by decide +kernel
theorem dX7_quickest_50 : decode cX7_quickest 50 = .ok (.iload_n 2, 1) := by decide +kernel
theorem dX7_quickest_51 : decode cX7_quickest 51 = .ok (.ireturn, 1) := by decide +kernel
theorem dX7_undo_0 : decode cX7_undo 0 = .ok (.aload_n 0, 1) := by decide +kernel
theorem dX7_undo_1 : decode cX7_undo 1 = .ok (.getfield 59, 3) := by decide +kernel
theorem dX7_undo_4 : decode cX7_undo 4 = .ok (.ifCond .ne 6, 3) := by decide +kernel
theorem dX7_undo_7 : decode cX7_undo 7 = .ok (.bipush (-2), 2) := by decide +kernel
theorem dX7_undo_9 : decode cX7_undo 9 = .ok (.ireturn, 1) := by decide +kernel
theorem dX7_undo_10 : decode cX7_undo 10 = .ok (.aload_n 0, 1) := by decide +kernel
theorem dX7_undo_11 : decode cX7_undo 11 = .ok (.dup, 1) := by decide +kernel
theorem dX7_undo_12 : decode cX7_undo 12 = .ok (.getfield 59, 3) := by decide +kernel
theorem dX7_undo_15 : decode cX7_undo 15 = .ok (.iconst 1, 1) := by decide +kernel
theorem dX7_undo_16 : decode cX7_undo 16 = .ok (.isub, 1) := by decide +kernel
theorem dX7_undo_17 : decode cX7_undo 17 = .ok (.putfield 59, 3) := by decide +kernel
theorem dX7_undo_20 : decode cX7_undo 20 = .ok (.iconst 0, 1) := by decide +kernel
theorem dX7_undo_21 : decode cX7_undo 21 = .ok (.istore_n 1, 1) := by decide +kernel
theorem dX7_undo_22 : decode cX7_undo 22 = .ok (.iload_n 1, 1) := by decide +kernel
theorem dX7_undo_23 : decode cX7_undo 23 = .ok (.bipush 34, 2) := by decide +kernel
theorem dX7_undo_25 : decode cX7_undo 25 = .ok (.if_icmp .ge 29, 3) := by decide +kernel
theorem dX7_undo_28 : decode cX7_undo 28 = .ok (.aload_n 0, 1) := by decide +kernel
theorem dX7_undo_29 : decode cX7_undo 29 = .ok (.getfield 7, 3) := by decide +kernel
theorem dX7_undo_32 : decode cX7_undo 32 = .ok (.iload_n 1, 1) := by decide +kernel
theorem dX7_undo_33 : decode cX7_undo 33 = .ok (.aload_n 0, 1) := by decide +kernel
theorem dX7_undo_34 : decode cX7_undo 34 = .ok (.getfield 13, 3) := by decide +kernel
theorem dX7_undo_37 : decode cX7_undo 37 = .ok (.bipush 34, 2) := by decide +kernel
theorem dX7_undo_39 : decode cX7_undo 39 = .ok (.aload_n 0, 1) := by decide +kernel
theorem dX7_undo_40 : decode cX7_undo 40 = .ok (.getfield 59, 3) := by decide +kernel
theorem dX7_undo_43 : decode cX7_undo 43 = .ok (.imul, 1) := by decide +kernel
theorem dX7_undo_44 : decode cX7_undo 44 = .ok (.iload_n 1, 1) := by decide +kernel
theorem dX7_undo_45 : decode cX7_undo 45 = .ok (.iadd, 1) := by decide +kernel
theorem dX7_undo_46 : decode cX7_undo 46 = .ok (.iaload, 1) := by decide +kernel
theorem dX7_undo_47 : decode cX7_undo 47 = .ok (.iastore, 1) := by decide +kernel
theorem dX7_undo_48 : decode cX7_undo 48 = .ok (.iinc 1 1, 3) := by decide +kernel
theorem dX7_undo_51 : decode cX7_undo 51 = .ok (.goto (-29), 3) := by decide +kernel
theorem dX7_undo_54 : decode cX7_undo 54 = .ok (.aload_n 0, 1) := by decide +kernel
theorem dX7_undo_55 : decode cX7_undo 55 = .ok (.getfield 59, 3) := by decide +kernel
theorem dX7_undo_58 : decode cX7_undo 58 = .ok (.ireturn, 1) := by decide +kernel
theorem dX7_save_0 : decode cX7_save 0 = .ok (.iconst 0, 1) := by decide +kernel
theorem dX7_save_1 : decode cX7_save 1 = .ok (.istore_n 1, 1) := by decide +kernel
theorem dX7_save_2 : decode cX7_save 2 = .ok (.iload_n 1, 1) := by decide +kernel
theorem dX7_save_3 : decode cX7_save 3 = .ok (.bipush 34, 2) := by decide +kernel
theorem dX7_save_5 : decode cX7_save 5 = .ok (.if_icmp .ge 21, 3) := by decide +kernel
theorem dX7_save_8 : decode cX7_save 8 = .ok (.aload_n 0, 1) := by decide +kernel
theorem dX7_save_9 : decode cX7_save 9 = .ok (.getfield 16, 3) := by decide +kernel
theorem dX7_save_12 : decode cX7_save 12 = .ok (.iload_n 1, 1) := by decide +kernel
theorem dX7_save_13 : decode cX7_save 13 = .ok (.aload_n 0, 1) := by decide +kernel
theorem dX7_save_14 : decode cX7_save 14 = .ok (.getfield 7, 3) := by decide +kernel
theorem dX7_save_17 : decode cX7_save 17 = .ok (.iload_n 1, 1) := by decide +kernel
theorem dX7_save_18 : decode cX7_save 18 = .ok (.iaload, 1) := by decide +kernel
theorem dX7_save_19 : decode cX7_save 19 = .ok (.iastore, 1) := by decide +kernel
theorem dX7_save_20 : decode cX7_save 20 = .ok (.iinc 1 1, 3) := by decide +kernel
theorem dX7_save_23 : decode cX7_save 23 = .ok (.goto (-21), 3) := by decide +kernel
theorem dX7_save_26 : decode cX7_save 26 = .ok (.aload_n 0, 1) := by decide +kernel
theorem dX7_save_27 : decode cX7_save 27 = .ok (.iconst 1, 1) := by decide +kernel
theorem dX7_save_28 : decode cX7_save 28 = .ok (.putfield 189, 3) := by decide +kernel
theorem dX7_save_31 : decode cX7_save 31 = .ok (.aload_n 0, 1) := by decide +kernel
theorem dX7_save_32 : decode cX7_save 32 = .ok (.getfield 7, 3) := by decide +kernel
theorem dX7_save_35 : decode cX7_save 35 = .ok (.iconst 0, 1) := by decide +kernel
theorem dX7_save_36 : decode cX7_save 36 = .ok (.iaload, 1) := by decide +kernel
theorem dX7_save_37 : decode cX7_save 37 = .ok (.ireturn, 1) := by decide +kernel
set_option maxRecDepth 20000 in
theorem ggX7_restore_X7_record : GoodIn wsX7_restore wsX7_record := goodIn_r _ [8, 9, 10, 2, 11, 12, 13, 14, 15, 16, 17, 18, 19, 20, 21, 22, 23, 24, 25, 26, 27] (by decide +kernel) (by decide +kernel)
set_option maxRecDepth 20000 in
theorem gX7_restore_X7_record : GoodIn wsX7_restore (wsV RX7 117 RX7 yX7_record wsX7_record) := goodIn_app (goodIn_of _ (by decide +kernel)) ggX7_restore_X7_record
theorem dX7_restore_0 : decode cX7_restore 0 = .ok (.aload_n 0, 1) := by decide +kernel
theorem dX7_restore_1 : decode cX7_restore 1 = .ok (.getfield 189, 3) := by decide +kernel
theorem dX7_restore_4 : decode cX7_restore 4 = .ok (.ifCond .ne 6, 3) := by decide +kernel
theorem dX7_restore_7 : decode cX7_restore 7 = .ok (.bipush (-2), 2) := by decide +kernel
theorem dX7_restore_9 : decode cX7_restore 9 = .ok (.ireturn, 1) := by decide +kernel
theorem dX7_restore_10 : decode cX7_restore 10 = .ok (.aload_n 0, 1) := by decide +kernel
theorem dX7_restore_11 : decode cX7_restore 11 = .ok (.invokevirtual 117, 3) := by decide +kernel
theorem dX7_restore_14 : decode cX7_restore 14 = .ok (.iconst 0, 1) := by decide +kernel
theorem dX7_restore_15 : decode cX7_restore 15 = .ok (.istore_n 1, 1) := by decide +kernel
theorem dX7_restore_16 : decode cX7_restore 16 = .ok (.iload_n 1, 1) := by decide +kernel
theorem dX7_restore_17 : decode cX7_restore 17 = .ok (.bipush 34, 2) := by decide +kernel
theorem dX7_restore_19 : decode cX7_restore 19 = .ok (.if_icmp .ge 21, 3) := by decide +kernel
theorem dX7_restore_22 : decode cX7_restore 22 = .ok (.aload_n 0, 1) := by decide +kernel
theorem dX7_restore_23 : decode cX7_restore 23 = .ok (.getfield 7, 3) := by decide +kernel
theorem dX7_restore_26 : decode cX7_restore 26 = .ok (.iload_n 1, 1) := by decide +kernel
theorem dX7_restore_27 : decode cX7_restore 27 = .ok (.aload_n 0, 1) := by decide +kernel
theorem dX7_restore_28 : decode cX7_restore 28 = .ok (.getfield 16, 3) := by decide +kernel
theorem dX7_restore_31 : decode cX7_restore 31 = .ok (.iload_n 1, 1) := by decide +kernel
theorem dX7_restore_32 : decode cX7_restore 32 = .ok (.iaload, 1) := by decide +kernel
theorem dX7_restore_33 : decode cX7_restore 33 = .ok (.iastore, 1) := by decide +kernel
theorem dX7_restore_34 : decode cX7_restore 34 = .ok (.iinc 1 1, 3) := by decide +kernel
theorem dX7_restore_37 : decode cX7_restore 37 = .ok (.goto (-21), 3) := by decide +kernel
theorem dX7_restore_40 : decode cX7_restore 40 = .ok (.aload_n 0, 1) := by decide +kernel
theorem dX7_restore_41 : decode cX7_restore 41 = .ok (.getfield 7, 3) := by decide +kernel
theorem dX7_restore_44 : decode cX7_restore 44 = .ok (.iconst 0, 1) := by decide +kernel
theorem dX7_restore_45 : decode cX7_restore 45 = .ok (.iaload, 1) := by decide +kernel
theorem dX7_restore_46 : decode cX7_restore 46 = .ok (.ireturn, 1) := by decide +kernel
