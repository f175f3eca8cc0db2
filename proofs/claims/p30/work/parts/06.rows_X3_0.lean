set_option maxRecDepth 20000 in
theorem ggX3_init_X3_nearestOf : GoodIn wsX3_init wsX3_nearestOf := goodIn_r _ [16, 17, 18, 19, 20, 21, 22, 23, 24, 25, 26, 27, 28, 29, 30] (by decide +kernel) (by decide +kernel)
set_option maxRecDepth 20000 in
theorem gX3_init_X3_nearestOf : GoodIn wsX3_init (va_wsS RX3 35 yX3_nearestOf wsX3_nearestOf) := goodIn_app (goodIn_of _ (by decide +kernel)) ggX3_init_X3_nearestOf
theorem dX3_init_0 : decode cX3_init 0 = .ok (.aload_n 0, 1) := by decide +kernel
theorem dX3_init_1 : decode cX3_init 1 = .ok (.invokespecial 3, 3) := by decide +kernel
theorem dX3_init_4 : decode cX3_init 4 = .ok (.aload_n 0, 1) := by decide +kernel
theorem dX3_init_5 : decode cX3_init 5 = .ok (.bipush 32, 2) := by decide +kernel
theorem dX3_init_7 : decode cX3_init 7 = .ok (.newarray .int, 2) := by decide +kernel
theorem dX3_init_9 : decode cX3_init 9 = .ok (.putfield 11, 3) := by decide +kernel
theorem dX3_init_12 : decode cX3_init 12 = .ok (.aload_n 0, 1) := by decide +kernel
theorem dX3_init_13 : decode cX3_init 13 = .ok (.bipush 32, 2) := by decide +kernel
theorem dX3_init_15 : decode cX3_init 15 = .ok (.newarray .int, 2) := by decide +kernel
theorem dX3_init_17 : decode cX3_init 17 = .ok (.putfield 15, 3) := by decide +kernel
theorem dX3_init_20 : decode cX3_init 20 = .ok (.aload_n 0, 1) := by decide +kernel
theorem dX3_init_21 : decode cX3_init 21 = .ok (.bipush 32, 2) := by decide +kernel
theorem dX3_init_23 : decode cX3_init 23 = .ok (.newarray .boolean, 2) := by decide +kernel
theorem dX3_init_25 : decode cX3_init 25 = .ok (.putfield 18, 3) := by decide +kernel
theorem dX3_init_28 : decode cX3_init 28 = .ok (.aload_n 0, 1) := by decide +kernel
theorem dX3_init_29 : decode cX3_init 29 = .ok (.bipush 32, 2) := by decide +kernel
theorem dX3_init_31 : decode cX3_init 31 = .ok (.newarray .boolean, 2) := by decide +kernel
theorem dX3_init_33 : decode cX3_init 33 = .ok (.putfield 22, 3) := by decide +kernel
theorem dX3_init_36 : decode cX3_init 36 = .ok (.aload_n 0, 1) := by decide +kernel
theorem dX3_init_37 : decode cX3_init 37 = .ok (.bipush 32, 2) := by decide +kernel
theorem dX3_init_39 : decode cX3_init 39 = .ok (.newarray .int, 2) := by decide +kernel
theorem dX3_init_41 : decode cX3_init 41 = .ok (.putfield 25, 3) := by decide +kernel
theorem dX3_init_44 : decode cX3_init 44 = .ok (.aload_n 0, 1) := by decide +kernel
theorem dX3_init_45 : decode cX3_init 45 = .ok (.sipush 132, 3) := by decide +kernel
theorem dX3_init_48 : decode cX3_init 48 = .ok (.newarray .int, 2) := by decide +kernel
theorem dX3_init_50 : decode cX3_init 50 = .ok (.putfield 28, 3) := by decide +kernel
theorem dX3_init_53 : decode cX3_init 53 = .ok (.aload_n 0, 1) := by decide +kernel
theorem dX3_init_54 : decode cX3_init 54 = .ok (.iconst 0, 1) := by decide +kernel
theorem dX3_init_55 : decode cX3_init 55 = .ok (.putfield 31, 3) := by decide +kernel
theorem dX3_init_58 : decode cX3_init 58 = .ok (.iconst 0, 1) := by decide +kernel
theorem dX3_init_59 : decode cX3_init 59 = .ok (.istore_n 1, 1) := by decide +kernel
theorem dX3_init_60 : decode cX3_init 60 = .ok (.iload_n 1, 1) := by decide +kernel
theorem dX3_init_61 : decode cX3_init 61 = .ok (.aload_n 0, 1) := by decide +kernel
theorem dX3_init_62 : decode cX3_init 62 = .ok (.getfield 11, 3) := by decide +kernel
theorem dX3_init_65 : decode cX3_init 65 = .ok (.arraylength, 1) := by decide +kernel
theorem dX3_init_66 : decode cX3_init 66 = .ok (.if_icmp .ge 38, 3) := by decide +kernel
theorem dX3_init_69 : decode cX3_init 69 = .ok (.aload_n 0, 1) := by decide +kernel
theorem dX3_init_70 : decode cX3_init 70 = .ok (.getfield 11, 3) := by decide +kernel
theorem dX3_init_73 : decode cX3_init 73 = .ok (.iload_n 1, 1) := by decide +kernel
theorem dX3_init_74 : decode cX3_init 74 = .ok (.iload_n 1, 1) := by decide +kernel
theorem dX3_init_75 : decode cX3_init 75 = .ok (.iconst 3, 1) := by decide +kernel
theorem dX3_init_76 : decode cX3_init 76 = .ok (.ishr, 1) := by decide +kernel
theorem dX3_init_77 : decode cX3_init 77 = .ok (.iload_n 1, 1) := by decide +kernel
theorem dX3_init_78 : decode cX3_init 78 = .ok (.iconst 1, 1) := by decide +kernel
theorem dX3_init_79 : decode cX3_init 79 = .ok (.ishr, 1) := by decide +kernel
theorem dX3_init_80 : decode cX3_init 80 = .ok (.iconst 3, 1) := by decide +kernel
theorem dX3_init_81 : decode cX3_init 81 = .ok (.iand, 1) := by decide +kernel
theorem dX3_init_82 : decode cX3_init 82 = .ok (.iload_n 1, 1) := by decide +kernel
theorem dX3_init_83 : decode cX3_init 83 = .ok (.iconst 1, 1) := by decide +kernel
theorem dX3_init_84 : decode cX3_init 84 = .ok (.iand, 1) := by decide +kernel
theorem dX3_init_85 : decode cX3_init 85 = .ok (.iconst 1, 1) := by decide +kernel
theorem dX3_init_86 : decode cX3_init 86 = .ok (.if_icmp .ne 7, 3) := by decide +kernel
theorem dX3_init_89 : decode cX3_init 89 = .ok (.iconst 1, 1) := by decide +kernel
theorem dX3_init_90 : decode cX3_init 90 = .ok (.goto 4, 3) := by decide +kernel
theorem dX3_init_93 : decode cX3_init 93 = .ok (.iconst 0, 1) := by decide +kernel
theorem dX3_init_94 : decode cX3_init 94 = .ok (.invokestatic 35, 3) := by decide +kernel
theorem dX3_init_97 : decode cX3_init 97 = .ok (.iastore, 1) := by decide +kernel
theorem dX3_init_98 : decode cX3_init 98 = .ok (.iinc 1 1, 3) := by decide +kernel
theorem dX3_init_101 : decode cX3_init 101 = .ok (.goto (-41), 3) := by decide +kernel
theorem dX3_init_104 : decode cX3_init 104 = .ok (.return_, 1) := by decide +kernel
set_option maxRecDepth 20000 in
theorem ggX3_nearestOf_X5_blowsOf : GoodIn wsX3_nearestOf wsX5_blowsOf := goodIn_r _ [8] (by decide +kernel) (by decide +kernel)
set_option maxRecDepth 20000 in
theorem gX3_nearestOf_X5_blowsOf : GoodIn wsX3_nearestOf (va_wsS RX3 39 yX5_blowsOf wsX5_blowsOf) := goodIn_app (goodIn_of _ (by decide +kernel)) ggX3_nearestOf_X5_blowsOf
set_option maxRecDepth 20000 in
theorem ggX3_nearestOf_X5_isOfOwnHand : GoodIn wsX3_nearestOf wsX5_isOfOwnHand := goodIn_r _ [11] (by decide +kernel) (by decide +kernel)
set_option maxRecDepth 20000 in
theorem gX3_nearestOf_X5_isOfOwnHand : GoodIn wsX3_nearestOf (va_wsS RX3 45 yX5_isOfOwnHand wsX5_isOfOwnHand) := goodIn_app (goodIn_of _ (by decide +kernel)) ggX3_nearestOf_X5_isOfOwnHand
set_option maxRecDepth 20000 in
theorem ggX3_nearestOf_X5_offset : GoodIn wsX3_nearestOf wsX5_offset := goodIn_r _ [14] (by decide +kernel) (by decide +kernel)
set_option maxRecDepth 20000 in
theorem gX3_nearestOf_X5_offset : GoodIn wsX3_nearestOf (va_wsS RX3 49 yX5_offset wsX5_offset) := goodIn_app (goodIn_of _ (by decide +kernel)) ggX3_nearestOf_X5_offset
theorem dX3_nearestOf_0 : decode cX3_nearestOf 0 = .ok (.iconst 4, 1) := by decide +kernel
theorem dX3_nearestOf_1 : decode cX3_nearestOf 1 = .ok (.istore_n 3, 1) := by decide +kernel
theorem dX3_nearestOf_2 : decode cX3_nearestOf 2 = .ok (.iconst 0, 1) := by decide +kernel
theorem dX3_nearestOf_3 : decode cX3_nearestOf 3 = .ok (.istore 4, 2) := by decide +kernel
theorem dX3_nearestOf_5 : decode cX3_nearestOf 5 = .ok (.iload 4, 2) := by decide +kernel
theorem dX3_nearestOf_7 : decode cX3_nearestOf 7 = .ok (.iload_n 0, 1) := by decide +kernel
theorem dX3_nearestOf_8 : decode cX3_nearestOf 8 = .ok (.invokestatic 39, 3) := by decide +kernel
theorem dX3_nearestOf_11 : decode cX3_nearestOf 11 = .ok (.if_icmp .ge 75, 3) := by decide +kernel
theorem dX3_nearestOf_14 : decode cX3_nearestOf 14 = .ok (.iconst 0, 1) := by decide +kernel
theorem dX3_nearestOf_15 : decode cX3_nearestOf 15 = .ok (.istore 5, 2) := by decide +kernel
theorem dX3_nearestOf_17 : decode cX3_nearestOf 17 = .ok (.iload 5, 2) := by decide +kernel
theorem dX3_nearestOf_19 : decode cX3_nearestOf 19 = .ok (.iload_n 1, 1) := by decide +kernel
theorem dX3_nearestOf_20 : decode cX3_nearestOf 20 = .ok (.invokestatic 39, 3) := by decide +kernel
theorem dX3_nearestOf_23 : decode cX3_nearestOf 23 = .ok (.if_icmp .ge 57, 3) := by decide +kernel
theorem dX3_nearestOf_26 : decode cX3_nearestOf 26 = .ok (.iload_n 0, 1) := by decide +kernel
theorem dX3_nearestOf_27 : decode cX3_nearestOf 27 = .ok (.iload 4, 2) := by decide +kernel
theorem dX3_nearestOf_29 : decode cX3_nearestOf 29 = .ok (.invokestatic 45, 3) := by decide +kernel
theorem dX3_nearestOf_32 : decode cX3_nearestOf 32 = .ok (.iload_n 1, 1) := by decide +kernel
theorem dX3_nearestOf_33 : decode cX3_nearestOf 33 = .ok (.iload 5, 2) := by decide +kernel
theorem dX3_nearestOf_35 : decode cX3_nearestOf 35 = .ok (.invokestatic 45, 3) := by decide +kernel
theorem dX3_nearestOf_38 : decode cX3_nearestOf 38 = .ok (.if_icmp .ne 7, 3) := by decide +kernel
theorem dX3_nearestOf_41 : decode cX3_nearestOf 41 = .ok (.iconst 1, 1) := by decide +kernel
theorem dX3_nearestOf_42 : decode cX3_nearestOf 42 = .ok (.goto 4, 3) := by decide +kernel
theorem dX3_nearestOf_45 : decode cX3_nearestOf 45 = .ok (.iconst 0, 1) := by decide +kernel
theorem dX3_nearestOf_46 : decode cX3_nearestOf 46 = .ok (.istore 6, 2) := by decide +kernel
theorem dX3_nearestOf_48 : decode cX3_nearestOf 48 = .ok (.iload 6, 2) := by decide +kernel
theorem dX3_nearestOf_50 : decode cX3_nearestOf 50 = .ok (.iload_n 2, 1) := by decide +kernel
theorem dX3_nearestOf_51 : decode cX3_nearestOf 51 = .ok (.if_icmp .ne 23, 3) := by decide +kernel
theorem dX3_nearestOf_54 : decode cX3_nearestOf 54 = .ok (.iload_n 3, 1) := by decide +kernel
theorem dX3_nearestOf_55 : decode cX3_nearestOf 55 = .ok (.iconst 4, 1) := by decide +kernel
theorem dX3_nearestOf_56 : decode cX3_nearestOf 56 = .ok (.iload_n 1, 1) := by decide +kernel
theorem dX3_nearestOf_57 : decode cX3_nearestOf 57 = .ok (.iload 5, 2) := by decide +kernel
theorem dX3_nearestOf_59 : decode cX3_nearestOf 59 = .ok (.invokestatic 49, 3) := by decide +kernel
theorem dX3_nearestOf_62 : decode cX3_nearestOf 62 = .ok (.iadd, 1) := by decide +kernel
theorem dX3_nearestOf_63 : decode cX3_nearestOf 63 = .ok (.iload_n 0, 1) := by decide +kernel
theorem dX3_nearestOf_64 : decode cX3_nearestOf 64 = .ok (.iload 4, 2) := by decide +kernel
theorem dX3_nearestOf_66 : decode cX3_nearestOf 66 = .ok (.invokestatic 49, 3) := by decide +kernel
theorem dX3_nearestOf_69 : decode cX3_nearestOf 69 = .ok (.isub, 1) := by decide +kernel
theorem dX3_nearestOf_70 : decode cX3_nearestOf 70 = .ok (.invokestatic 53, 3) := by decide +kernel
theorem dX3_nearestOf_73 : decode cX3_nearestOf 73 = .ok (.istore_n 3, 1) := by decide +kernel
theorem dX3_nearestOf_74 : decode cX3_nearestOf 74 = .ok (.iinc 5 1, 3) := by decide +kernel
theorem dX3_nearestOf_77 : decode cX3_nearestOf 77 = .ok (.goto (-60), 3) := by decide +kernel
theorem dX3_nearestOf_80 : decode cX3_nearestOf 80 = .ok (.iinc 4 1, 3) := by decide +kernel
theorem dX3_nearestOf_83 : decode cX3_nearestOf 83 = .ok (.goto (-78), 3) := by decide +kernel
theorem dX3_nearestOf_86 : decode cX3_nearestOf 86 = .ok (.iload_n 3, 1) := by decide +kernel
theorem dX3_nearestOf_87 : decode cX3_nearestOf 87 = .ok (.ireturn, 1) := by decide +kernel
set_option maxRecDepth 20000 in
theorem ggX3_load_X2_at : GoodIn wsX3_load wsX2_at := goodIn_r _ [13, 14, 15, 16, 17, 12, 18, 19, 36, 37, 38] (by decide +kernel) (by decide +kernel)
set_option maxRecDepth 20000 in
theorem gX3_load_X2_at : GoodIn wsX3_load (wsV RX3 61 RX2 yX2_at wsX2_at) := goodIn_app (goodIn_of _ (by decide +kernel)) ggX3_load_X2_at
set_option maxRecDepth 20000 in
theorem ggX3_load_X5_isStroke : GoodIn wsX3_load wsX5_isStroke := goodIn_r _ [23] (by decide +kernel) (by decide +kernel)
set_option maxRecDepth 20000 in
theorem gX3_load_X5_isStroke : GoodIn wsX3_load (va_wsS RX3 64 yX5_isStroke wsX5_isStroke) := goodIn_app (goodIn_of _ (by decide +kernel)) ggX3_load_X5_isStroke
set_option maxRecDepth 20000 in
theorem ggX3_load_X5_hand : GoodIn wsX3_load wsX5_hand := goodIn_r _ [26] (by decide +kernel) (by decide +kernel)
set_option maxRecDepth 20000 in
theorem gX3_load_X5_hand : GoodIn wsX3_load (va_wsS RX3 68 yX5_hand wsX5_hand) := goodIn_app (goodIn_of _ (by decide +kernel)) ggX3_load_X5_hand
set_option maxRecDepth 20000 in
theorem ggX3_load_X3_comesNearer : GoodIn wsX3_load wsX3_comesNearer := goodIn_r _ [31, 32, 20, 21, 22, 23, 33, 34, 35, 39, 40, 41, 42, 43, 44, 45] (by decide +kernel) (by decide +kernel)
set_option maxRecDepth 20000 in
theorem gX3_load_X3_comesNearer : GoodIn wsX3_load (wsV RX3 74 RX3 yX3_comesNearer wsX3_comesNearer) := goodIn_app (goodIn_of _ (by decide +kernel)) ggX3_load_X3_comesNearer
theorem dX3_load_0 : decode cX3_load 0 = .ok (.aload_n 0, 1) := by decide +kernel
theorem dX3_load_1 : decode cX3_load 1 = .ok (.aload_n 1, 1) := by decide +kernel
theorem dX3_load_2 : decode cX3_load 2 = .ok (.getfield 58, 3) := by decide +kernel
theorem dX3_load_5 : decode cX3_load 5 = .ok (.bipush 32, 2) := by decide +kernel
theorem dX3_load_7 : decode cX3_load 7 = .ok (.invokestatic 53, 3) := by decide +kernel
theorem dX3_load_10 : decode cX3_load 10 = .ok (.putfield 31, 3) := by decide +kernel
theorem dX3_load_13 : decode cX3_load 13 = .ok (.iload_n 2, 1) := by decide +kernel
theorem dX3_load_14 : decode cX3_load 14 = .ok (.ifCond .eq 16, 3) := by decide +kernel
theorem dX3_load_17 : decode cX3_load 17 = .ok (.aload_n 1, 1) := by decide +kernel
theorem dX3_load_18 : decode cX3_load 18 = .ok (.aload_n 0, 1) := by decide +kernel
theorem dX3_load_19 : decode cX3_load 19 = .ok (.getfield 31, 3) := by decide +kernel
theorem dX3_load_22 : decode cX3_load 22 = .ok (.iconst 1, 1) := by decide +kernel
theorem dX3_load_23 : decode cX3_load 23 = .ok (.isub, 1) := by decide +kernel
theorem dX3_load_24 : decode cX3_load 24 = .ok (.invokevirtual 61, 3) := by decide +kernel
theorem dX3_load_27 : decode cX3_load 27 = .ok (.goto 4, 3) := by decide +kernel
theorem dX3_load_30 : decode cX3_load 30 = .ok (.iconst 0, 1) := by decide +kernel
theorem dX3_load_31 : decode cX3_load 31 = .ok (.istore_n 3, 1) := by decide +kernel
theorem dX3_load_32 : decode cX3_load 32 = .ok (.iconst 0, 1) := by decide +kernel
theorem dX3_load_33 : decode cX3_load 33 = .ok (.istore 4, 2) := by decide +kernel
theorem dX3_load_35 : decode cX3_load 35 = .ok (.iload 4, 2) := by decide +kernel
theorem dX3_load_37 : decode cX3_load 37 = .ok (.aload_n 0, 1) := by decide +kernel
theorem dX3_load_38 : decode cX3_load 38 = .ok (.getfield 31, 3) := by decide +kernel
theorem dX3_load_41 : decode cX3_load 41 = .ok (.if_icmp .ge 82, 3) := by decide +kernel
theorem dX3_load_44 : decode cX3_load 44 = .ok (.aload_n 1, 1) := by decide +kernel
theorem dX3_load_45 : decode cX3_load 45 = .ok (.iload 4, 2) := by decide +kernel
theorem dX3_load_47 : decode cX3_load 47 = .ok (.invokevirtual 61, 3) := by decide +kernel
theorem dX3_load_50 : decode cX3_load 50 = .ok (.istore 5, 2) := by decide +kernel
theorem dX3_load_52 : decode cX3_load 52 = .ok (.aload_n 0, 1) := by decide +kernel
theorem dX3_load_53 : decode cX3_load 53 = .ok (.getfield 15, 3) := by decide +kernel
theorem dX3_load_56 : decode cX3_load 56 = .ok (.iload 4, 2) := by decide +kernel
theorem dX3_load_58 : decode cX3_load 58 = .ok (.iload 5, 2) := by decide +kernel
theorem dX3_load_60 : decode cX3_load 60 = .ok (.invokestatic 64, 3) := by decide +kernel
theorem dX3_load_63 : decode cX3_load 63 = .ok (.ifCond .eq 11, 3) := by decide +kernel
theorem dX3_load_66 : decode cX3_load 66 = .ok (.iload 5, 2) := by decide +kernel
theorem dX3_load_68 : decode cX3_load 68 = .ok (.invokestatic 68, 3) := by decide +kernel
theorem dX3_load_71 : decode cX3_load 71 = .ok (.goto 4, 3) := by decide +kernel
theorem dX3_load_74 : decode cX3_load 74 = .ok (.iconst 3, 1) := by decide +kernel
theorem dX3_load_75 : decode cX3_load 75 = .ok (.iastore, 1) := by decide +kernel
theorem dX3_load_76 : decode cX3_load 76 = .ok (.aload_n 0, 1) := by decide +kernel
theorem dX3_load_77 : decode cX3_load 77 = .ok (.getfield 18, 3) := by decide +kernel
theorem dX3_load_80 : decode cX3_load 80 = .ok (.iload 4, 2) := by decide +kernel
theorem dX3_load_82 : decode cX3_load 82 = .ok (.aload_n 0, 1) := by decide +kernel
theorem dX3_load_83 : decode cX3_load 83 = .ok (.iload_n 3, 1) := by decide +kernel
theorem dX3_load_84 : decode cX3_load 84 = .ok (.iload 5, 2) := by decide +kernel
theorem dX3_load_86 : decode cX3_load 86 = .ok (.iconst 1, 1) := by decide +kernel
theorem dX3_load_87 : decode cX3_load 87 = .ok (.aload_n 1, 1) := by decide +kernel
theorem dX3_load_88 : decode cX3_load 88 = .ok (.getfield 71, 3) := by decide +kernel
theorem dX3_load_91 : decode cX3_load 91 = .ok (.invokevirtual 74, 3) := by decide +kernel
theorem dX3_load_94 : decode cX3_load 94 = .ok (.bastore, 1) := by decide +kernel
theorem dX3_load_95 : decode cX3_load 95 = .ok (.aload_n 0, 1) := by decide +kernel
theorem dX3_load_96 : decode cX3_load 96 = .ok (.getfield 22, 3) := by decide +kernel
theorem dX3_load_99 : decode cX3_load 99 = .ok (.iload 4, 2) := by decide +kernel
theorem dX3_load_101 : decode cX3_load 101 = .ok (.aload_n 0, 1) := by decide +kernel
theorem dX3_load_102 : decode cX3_load 102 = .ok (.iload_n 3, 1) := by decide +kernel
theorem dX3_load_103 : decode cX3_load 103 = .ok (.iload 5, 2) := by decide +kernel
theorem dX3_load_105 : decode cX3_load 105 = .ok (.iconst 0, 1) := by decide +kernel
theorem dX3_load_106 : decode cX3_load 106 = .ok (.aload_n 1, 1) := by decide +kernel
theorem dX3_load_107 : decode cX3_load 107 = .ok (.getfield 71, 3) := by decide +kernel
theorem dX3_load_110 : decode cX3_load 110 = .ok (.invokevirtual 74, 3) := by decide +kernel
theorem dX3_load_113 : decode cX3_load 113 = .ok (.bastore, 1) := by decide +kernel
theorem dX3_load_114 : decode cX3_load 114 = .ok (.iload 5, 2) := by decide +kernel
theorem dX3_load_116 : decode cX3_load 116 = .ok (.istore_n 3, 1) := by decide +kernel
theorem dX3_load_117 : decode cX3_load 117 = .ok (.iinc 4 1, 3) := by decide +kernel
theorem dX3_load_120 : decode cX3_load 120 = .ok (.goto (-85), 3) := by decide +kernel
theorem dX3_load_123 : decode cX3_load 123 = .ok (.return_, 1) := by decide +kernel
set_option maxRecDepth 20000 in
theorem ggX3_comesNearer_X5_isStroke : GoodIn wsX3_comesNearer wsX5_isStroke := goodIn_r _ [5] (by decide +kernel) (by decide +kernel)
set_option maxRecDepth 20000 in
theorem gX3_comesNearer_X5_isStroke : GoodIn wsX3_comesNearer (va_wsS RX3 64 yX5_isStroke wsX5_isStroke) := goodIn_app (goodIn_of _ (by decide +kernel)) ggX3_comesNearer_X5_isStroke
set_option maxRecDepth 20000 in
theorem ggX3_comesNearer_X5_ornament : GoodIn wsX3_comesNearer wsX5_ornament := goodIn_r _ [8] (by decide +kernel) (by decide +kernel)
set_option maxRecDepth 20000 in
theorem gX3_comesNearer_X5_ornament : GoodIn wsX3_comesNearer (va_wsS RX3 78 yX5_ornament wsX5_ornament) := goodIn_app (goodIn_of _ (by decide +kernel)) ggX3_comesNearer_X5_ornament
theorem dX3_comesNearer_0 : decode cX3_comesNearer 0 = .ok (.iload_n 1, 1) := by decide +kernel
theorem dX3_comesNearer_1 : decode cX3_comesNearer 1 = .ok (.invokestatic 64, 3) := by decide +kernel
theorem dX3_comesNearer_4 : decode cX3_comesNearer 4 = .ok (.ifCond .eq 10, 3) := by decide +kernel
theorem dX3_comesNearer_7 : decode cX3_comesNearer 7 = .ok (.iload_n 2, 1) := by decide +kernel
theorem dX3_comesNearer_8 : decode cX3_comesNearer 8 = .ok (.invokestatic 64, 3) := by decide +kernel
theorem dX3_comesNearer_11 : decode cX3_comesNearer 11 = .ok (.ifCond .ne 5, 3) := by decide +kernel
theorem dX3_comesNearer_14 : decode cX3_comesNearer 14 = .ok (.iconst 0, 1) := by decide +kernel
theorem dX3_comesNearer_15 : decode cX3_comesNearer 15 = .ok (.ireturn, 1) := by decide +kernel
theorem dX3_comesNearer_16 : decode cX3_comesNearer 16 = .ok (.iload_n 1, 1) := by decide +kernel
theorem dX3_comesNearer_17 : decode cX3_comesNearer 17 = .ok (.invokestatic 78, 3) := by decide +kernel
theorem dX3_comesNearer_20 : decode cX3_comesNearer 20 = .ok (.iconst 3, 1) := by decide +kernel
theorem dX3_comesNearer_21 : decode cX3_comesNearer 21 = .ok (.ishl, 1) := by decide +kernel
theorem dX3_comesNearer_22 : decode cX3_comesNearer 22 = .ok (.iload_n 2, 1) := by decide +kernel
theorem dX3_comesNearer_23 : decode cX3_comesNearer 23 = .ok (.invokestatic 78, 3) := by decide +kernel
theorem dX3_comesNearer_26 : decode cX3_comesNearer 26 = .ok (.iconst 1, 1) := by decide +kernel
theorem dX3_comesNearer_27 : decode cX3_comesNearer 27 = .ok (.ishl, 1) := by decide +kernel
theorem dX3_comesNearer_28 : decode cX3_comesNearer 28 = .ok (.ior, 1) := by decide +kernel
theorem dX3_comesNearer_29 : decode cX3_comesNearer 29 = .ok (.iload_n 3, 1) := by decide +kernel
theorem dX3_comesNearer_30 : decode cX3_comesNearer 30 = .ok (.ifCond .eq 7, 3) := by decide +kernel
theorem dX3_comesNearer_33 : decode cX3_comesNearer 33 = .ok (.iconst 1, 1) := by decide +kernel
theorem dX3_comesNearer_34 : decode cX3_comesNearer 34 = .ok (.goto 4, 3) := by decide +kernel
theorem dX3_comesNearer_37 : decode cX3_comesNearer 37 = .ok (.iconst 0, 1) := by decide +kernel
theorem dX3_comesNearer_38 : decode cX3_comesNearer 38 = .ok (.ior, 1) := by decide +kernel
theorem dX3_comesNearer_39 : decode cX3_comesNearer 39 = .ok (.istore 5, 2) := by decide +kernel
theorem dX3_comesNearer_41 : decode cX3_comesNearer 41 = .ok (.iload 5, 2) := by decide +kernel
theorem dX3_comesNearer_43 : decode cX3_comesNearer 43 = .ok (.ifCond .lt 29, 3) := by decide +kernel
theorem dX3_comesNearer_46 : decode cX3_comesNearer 46 = .ok (.iload 5, 2) := by decide +kernel
theorem dX3_comesNearer_48 : decode cX3_comesNearer 48 = .ok (.aload_n 0, 1) := by decide +kernel
theorem dX3_comesNearer_49 : decode cX3_comesNearer 49 = .ok (.getfield 11, 3) := by decide +kernel
theorem dX3_comesNearer_52 : decode cX3_comesNearer 52 = .ok (.arraylength, 1) := by decide +kernel
theorem dX3_comesNearer_53 : decode cX3_comesNearer 53 = .ok (.if_icmp .ge 19, 3) := by decide +kernel
theorem dX3_comesNearer_56 : decode cX3_comesNearer 56 = .ok (.aload_n 0, 1) := by decide +kernel
theorem dX3_comesNearer_57 : decode cX3_comesNearer 57 = .ok (.getfield 11, 3) := by decide +kernel
theorem dX3_comesNearer_60 : decode cX3_comesNearer 60 = .ok (.iload 5, 2) := by decide +kernel
theorem dX3_comesNearer_62 : decode cX3_comesNearer 62 = .ok (.iaload, 1) := by decide +kernel
theorem dX3_comesNearer_63 : decode cX3_comesNearer 63 = .ok (.iload 4, 2) := by decide +kernel
theorem dX3_comesNearer_65 : decode cX3_comesNearer 65 = .ok (.if_icmp .ge 7, 3) := by decide +kernel
theorem dX3_comesNearer_68 : decode cX3_comesNearer 68 = .ok (.iconst 1, 1) := by decide +kernel
theorem dX3_comesNearer_69 : decode cX3_comesNearer 69 = .ok (.goto 4, 3) := by decide +kernel
theorem dX3_comesNearer_72 : decode cX3_comesNearer 72 = .ok (.iconst 0, 1) := by decide +kernel
theorem dX3_comesNearer_73 : decode cX3_comesNearer 73 = .ok (.ireturn, 1) := by decide +kernel
theorem dX3_collides_0 : decode cX3_collides 0 = .ok (.iload_n 1, 1) := by decide +kernel
theorem dX3_collides_1 : decode cX3_collides 1 = .ok (.ifCond .lt 11, 3) := by decide +kernel
theorem dX3_collides_4 : decode cX3_collides 4 = .ok (.iload_n 1, 1) := by decide +kernel
theorem dX3_collides_5 : decode cX3_collides 5 = .ok (.aload_n 0, 1) := by decide +kernel
theorem dX3_collides_6 : decode cX3_collides 6 = .ok (.getfield 31, 3) := by decide +kernel
theorem dX3_collides_9 : decode cX3_collides 9 = .ok (.if_icmp .lt 5, 3) := by decide +kernel
theorem dX3_collides_12 : decode cX3_collides 12 = .ok (.iconst 0, 1) := by decide +kernel
theorem dX3_collides_13 : decode cX3_collides 13 = .ok (.ireturn, 1) := by decide +kernel
theorem dX3_collides_14 : decode cX3_collides 14 = .ok (.iload_n 2, 1) := by decide +kernel
theorem dX3_collides_15 : decode cX3_collides 15 = .ok (.ifCond .eq 12, 3) := by decide +kernel
theorem dX3_collides_18 : decode cX3_collides 18 = .ok (.aload_n 0, 1) := by decide +kernel
theorem dX3_collides_19 : decode cX3_collides 19 = .ok (.getfield 18, 3) := by decide +kernel
theorem dX3_collides_22 : decode cX3_collides 22 = .ok (.iload_n 1, 1) := by decide +kernel
theorem dX3_collides_23 : decode cX3_collides 23 = .ok (.baload, 1) := by decide +kernel
theorem dX3_collides_24 : decode cX3_collides 24 = .ok (.goto 9, 3) := by decide +kernel
theorem dX3_collides_27 : decode cX3_collides 27 = .ok (.aload_n 0, 1) := by decide +kernel
theorem dX3_collides_28 : decode cX3_collides 28 = .ok (.getfield 22, 3) := by decide +kernel
theorem dX3_collides_31 : decode cX3_collides 31 = .ok (.iload_n 1, 1) := by decide +kernel
theorem dX3_collides_32 : decode cX3_collides 32 = .ok (.baload, 1) := by decide +kernel
theorem dX3_collides_33 : decode cX3_collides 33 = .ok (.ireturn, 1) := by decide +kernel
set_option maxRecDepth 20000 in
theorem ggX3_fits_X3_collides : GoodIn wsX3_fits wsX3_collides := goodIn_r _ [7, 1, 8, 9, 10, 11, 12, 13, 14, 15, 16] (by decide +kernel) (by decide +kernel)
set_option maxRecDepth 20000 in
theorem gX3_fits_X3_collides : GoodIn wsX3_fits (wsV RX3 81 RX3 yX3_collides wsX3_collides) := goodIn_app (goodIn_of _ (by decide +kernel)) ggX3_fits_X3_collides
theorem dX3_fits_0 : decode cX3_fits 0 = .ok (.iload_n 1, 1) := by decide +kernel
theorem dX3_fits_1 : decode cX3_fits 1 = .ok (.ifCond .lt 11, 3) := by decide +kernel
theorem dX3_fits_4 : decode cX3_fits 4 = .ok (.iload_n 1, 1) := by decide +kernel
theorem dX3_fits_5 : decode cX3_fits 5 = .ok (.aload_n 0, 1) := by decide +kernel
theorem dX3_fits_6 : decode cX3_fits 6 = .ok (.getfield 31, 3) := by decide +kernel
theorem dX3_fits_9 : decode cX3_fits 9 = .ok (.if_icmp .lt 5, 3) := by decide +kernel
theorem dX3_fits_12 : decode cX3_fits 12 = .ok (.iconst 0, 1) := by decide +kernel
theorem dX3_fits_13 : decode cX3_fits 13 = .ok (.ireturn, 1) := by decide +kernel
theorem dX3_fits_14 : decode cX3_fits 14 = .ok (.aload_n 0, 1) := by decide +kernel
theorem dX3_fits_15 : decode cX3_fits 15 = .ok (.getfield 15, 3) := by decide +kernel
theorem dX3_fits_18 : decode cX3_fits 18 = .ok (.iload_n 1, 1) := by decide +kernel
theorem dX3_fits_19 : decode cX3_fits 19 = .ok (.iaload, 1) := by decide +kernel
theorem dX3_fits_20 : decode cX3_fits 20 = .ok (.iconst 2, 1) := by decide +kernel
theorem dX3_fits_21 : decode cX3_fits 21 = .ok (.if_icmp .eq 13, 3) := by decide +kernel
theorem dX3_fits_24 : decode cX3_fits 24 = .ok (.aload_n 0, 1) := by decide +kernel
theorem dX3_fits_25 : decode cX3_fits 25 = .ok (.getfield 15, 3) := by decide +kernel
theorem dX3_fits_28 : decode cX3_fits 28 = .ok (.iload_n 1, 1) := by decide +kernel
theorem dX3_fits_29 : decode cX3_fits 29 = .ok (.iaload, 1) := by decide +kernel
theorem dX3_fits_30 : decode cX3_fits 30 = .ok (.iload_n 3, 1) := by decide +kernel
theorem dX3_fits_31 : decode cX3_fits 31 = .ok (.if_icmp .ne 7, 3) := by decide +kernel
theorem dX3_fits_34 : decode cX3_fits 34 = .ok (.iconst 1, 1) := by decide +kernel
theorem dX3_fits_35 : decode cX3_fits 35 = .ok (.goto 4, 3) := by decide +kernel
theorem dX3_fits_38 : decode cX3_fits 38 = .ok (.iconst 0, 1) := by decide +kernel
theorem dX3_fits_39 : decode cX3_fits 39 = .ok (.istore 4, 2) := by decide +kernel
theorem dX3_fits_41 : decode cX3_fits 41 = .ok (.iload 4, 2) := by decide +kernel
theorem dX3_fits_43 : decode cX3_fits 43 = .ok (.ifCond .eq 25, 3) := by decide +kernel
theorem dX3_fits_46 : decode cX3_fits 46 = .ok (.aload_n 0, 1) := by decide +kernel
theorem dX3_fits_47 : decode cX3_fits 47 = .ok (.iload_n 1, 1) := by decide +kernel
theorem dX3_fits_48 : decode cX3_fits 48 = .ok (.iload_n 2, 1) := by decide +kernel
theorem dX3_fits_49 : decode cX3_fits 49 = .ok (.iload_n 3, 1) := by decide +kernel
theorem dX3_fits_50 : decode cX3_fits 50 = .ok (.if_icmp .ne 7, 3) := by decide +kernel
theorem dX3_fits_53 : decode cX3_fits 53 = .ok (.iconst 1, 1) := by decide +kernel
theorem dX3_fits_54 : decode cX3_fits 54 = .ok (.goto 4, 3) := by decide +kernel
theorem dX3_fits_57 : decode cX3_fits 57 = .ok (.iconst 0, 1) := by decide +kernel
theorem dX3_fits_58 : decode cX3_fits 58 = .ok (.invokevirtual 81, 3) := by decide +kernel
theorem dX3_fits_61 : decode cX3_fits 61 = .ok (.ifCond .ne 7, 3) := by decide +kernel
theorem dX3_fits_64 : decode cX3_fits 64 = .ok (.iconst 1, 1) := by decide +kernel
theorem dX3_fits_65 : decode cX3_fits 65 = .ok (.goto 4, 3) := by decide +kernel
theorem dX3_fits_68 : decode cX3_fits 68 = .ok (.iconst 0, 1) := by decide +kernel
theorem dX3_fits_69 : decode cX3_fits 69 = .ok (.ireturn, 1) := by decide +kernel
set_option maxRecDepth 20000 in
theorem ggX3_tell_X2_strokes : GoodIn wsX3_tell wsX2_strokes := goodIn_r _ [10, 11, 12, 13, 14, 15, 16, 65, 66, 67] (by decide +kernel) (by decide +kernel)
set_option maxRecDepth 20000 in
theorem gX3_tell_X2_strokes : GoodIn wsX3_tell (wsV RX3 85 RX2 yX2_strokes wsX2_strokes) := goodIn_app (goodIn_of _ (by decide +kernel)) ggX3_tell_X2_strokes
set_option maxRecDepth 20000 in
theorem ggX3_tell_X3_load : GoodIn wsX3_tell wsX3_load := goodIn_r _ [21, 22, 23, 4, 24, 25, 26, 27, 28, 29, 30, 31, 9, 32, 12, 33, 34, 35, 36, 11, 37, 14, 15, 16, 38, 39, 40, 41, 42, 43, 20, 44, 45, 46, 47, 48, 65, 66, 67, 68, 69, 70, 71, 72, 73, 74] (by decide +kernel) (by decide +kernel)
set_option maxRecDepth 20000 in
theorem gX3_tell_X3_load : GoodIn wsX3_tell (wsV RX3 89 RX3 yX3_load wsX3_load) := goodIn_app (goodIn_of _ (by decide +kernel)) ggX3_tell_X3_load
set_option maxRecDepth 20000 in
theorem ggX3_tell_X3_tellBetween : GoodIn wsX3_tell wsX3_tellBetween := goodIn_r _ [52, 25, 26, 53, 54, 55, 20, 56, 57, 58, 59, 60, 61, 62, 63, 64, 27, 28, 68, 69, 70, 71, 72, 73, 74] (by decide +kernel) (by decide +kernel)
set_option maxRecDepth 20000 in
theorem gX3_tell_X3_tellBetween : GoodIn wsX3_tell (wsV RX3 93 RX3 yX3_tellBetween wsX3_tellBetween) := goodIn_app (goodIn_of _ (by decide +kernel)) ggX3_tell_X3_tellBetween
theorem dX3_tell_0 : decode cX3_tell 0 = .ok (.aload_n 1, 1) := by decide +kernel
theorem dX3_tell_1 : decode cX3_tell 1 = .ok (.invokevirtual 85, 3) := by decide +kernel
theorem dX3_tell_4 : decode cX3_tell 4 = .ok (.ifCond .ne 5, 3) := by decide +kernel
theorem dX3_tell_7 : decode cX3_tell 7 = .ok (.iconst 1, 1) := by decide +kernel
theorem dX3_tell_8 : decode cX3_tell 8 = .ok (.ireturn, 1) := by decide +kernel
theorem dX3_tell_9 : decode cX3_tell 9 = .ok (.aload_n 0, 1) := by decide +kernel
theorem dX3_tell_10 : decode cX3_tell 10 = .ok (.aload_n 1, 1) := by decide +kernel
theorem dX3_tell_11 : decode cX3_tell 11 = .ok (.iload_n 2, 1) := by decide +kernel
theorem dX3_tell_12 : decode cX3_tell 12 = .ok (.invokevirtual 89, 3) := by decide +kernel
theorem dX3_tell_15 : decode cX3_tell 15 = .ok (.aload_n 0, 1) := by decide +kernel
theorem dX3_tell_16 : decode cX3_tell 16 = .ok (.iconst 0, 1) := by decide +kernel
theorem dX3_tell_17 : decode cX3_tell 17 = .ok (.iconst 0, 1) := by decide +kernel
theorem dX3_tell_18 : decode cX3_tell 18 = .ok (.invokevirtual 93, 3) := by decide +kernel
theorem dX3_tell_21 : decode cX3_tell 21 = .ok (.iload_n 2, 1) := by decide +kernel
theorem dX3_tell_22 : decode cX3_tell 22 = .ok (.ifCond .eq 12, 3) := by decide +kernel
theorem dX3_tell_25 : decode cX3_tell 25 = .ok (.aload_n 0, 1) := by decide +kernel
theorem dX3_tell_26 : decode cX3_tell 26 = .ok (.iconst 1, 1) := by decide +kernel
theorem dX3_tell_27 : decode cX3_tell 27 = .ok (.iconst 1, 1) := by decide +kernel
theorem dX3_tell_28 : decode cX3_tell 28 = .ok (.invokevirtual 93, 3) := by decide +kernel
theorem dX3_tell_31 : decode cX3_tell 31 = .ok (.goto 9, 3) := by decide +kernel
theorem dX3_tell_34 : decode cX3_tell 34 = .ok (.aload_n 0, 1) := by decide +kernel
theorem dX3_tell_35 : decode cX3_tell 35 = .ok (.iconst 0, 1) := by decide +kernel
theorem dX3_tell_36 : decode cX3_tell 36 = .ok (.iconst 1, 1) := by decide +kernel
theorem dX3_tell_37 : decode cX3_tell 37 = .ok (.invokevirtual 93, 3) := by decide +kernel
theorem dX3_tell_40 : decode cX3_tell 40 = .ok (.ladd, 1) := by decide +kernel
theorem dX3_tell_41 : decode cX3_tell 41 = .ok (.lstore_n 3, 1) := by decide +kernel
theorem dX3_tell_42 : decode cX3_tell 42 = .ok (.lload_n 3, 1) := by decide +kernel
theorem dX3_tell_43 : decode cX3_tell 43 = .ok (.ldc2_w 97, 3) := by decide +kernel
theorem dX3_tell_46 : decode cX3_tell 46 = .ok (.invokestatic 99, 3) := by decide +kernel
theorem dX3_tell_49 : decode cX3_tell 49 = .ok (.l2i, 1) := by decide +kernel
theorem dX3_tell_50 : decode cX3_tell 50 = .ok (.ireturn, 1) := by decide +kernel
set_option maxRecDepth 20000 in
theorem ggX3_tellBetween_X3_tellNext : GoodIn wsX3_tellBetween wsX3_tellNext := goodIn_r _ [7, 8, 9, 10, 6, 11, 1, 2, 12, 13, 14, 15, 16, 17, 18, 19, 20, 21, 22, 23, 24] (by decide +kernel) (by decide +kernel)
set_option maxRecDepth 20000 in
theorem gX3_tellBetween_X3_tellNext : GoodIn wsX3_tellBetween (wsV RX3 102 RX3 yX3_tellNext wsX3_tellNext) := goodIn_app (goodIn_of _ (by decide +kernel)) ggX3_tellBetween_X3_tellNext
theorem dX3_tellBetween_0 : decode cX3_tellBetween 0 = .ok (.iload_n 1, 1) := by decide +kernel
theorem dX3_tellBetween_1 : decode cX3_tellBetween 1 = .ok (.ifCond .ne 7, 3) := by decide +kernel
theorem dX3_tellBetween_4 : decode cX3_tellBetween 4 = .ok (.lconst 1, 1) := by decide +kernel
theorem dX3_tellBetween_5 : decode cX3_tellBetween 5 = .ok (.goto 4, 3) := by decide +kernel
theorem dX3_tellBetween_8 : decode cX3_tellBetween 8 = .ok (.lconst 0, 1) := by decide +kernel
theorem dX3_tellBetween_9 : decode cX3_tellBetween 9 = .ok (.lstore_n 3, 1) := by decide +kernel
theorem dX3_tellBetween_10 : decode cX3_tellBetween 10 = .ok (.iload_n 1, 1) := by decide +kernel
theorem dX3_tellBetween_11 : decode cX3_tellBetween 11 = .ok (.iconst 1, 1) := by decide +kernel
theorem dX3_tellBetween_12 : decode cX3_tellBetween 12 = .ok (.if_icmp .ne 7, 3) := by decide +kernel
theorem dX3_tellBetween_15 : decode cX3_tellBetween 15 = .ok (.lconst 1, 1) := by decide +kernel
theorem dX3_tellBetween_16 : decode cX3_tellBetween 16 = .ok (.goto 4, 3) := by decide +kernel
theorem dX3_tellBetween_19 : decode cX3_tellBetween 19 = .ok (.lconst 0, 1) := by decide +kernel
theorem dX3_tellBetween_20 : decode cX3_tellBetween 20 = .ok (.lstore 5, 2) := by decide +kernel
theorem dX3_tellBetween_22 : decode cX3_tellBetween 22 = .ok (.iconst 0, 1) := by decide +kernel
theorem dX3_tellBetween_23 : decode cX3_tellBetween 23 = .ok (.istore 7, 2) := by decide +kernel
theorem dX3_tellBetween_25 : decode cX3_tellBetween 25 = .ok (.iload 7, 2) := by decide +kernel
theorem dX3_tellBetween_27 : decode cX3_tellBetween 27 = .ok (.aload_n 0, 1) := by decide +kernel
theorem dX3_tellBetween_28 : decode cX3_tellBetween 28 = .ok (.getfield 31, 3) := by decide +kernel
theorem dX3_tellBetween_31 : decode cX3_tellBetween 31 = .ok (.if_icmp .ge 47, 3) := by decide +kernel
theorem dX3_tellBetween_34 : decode cX3_tellBetween 34 = .ok (.aload_n 0, 1) := by decide +kernel
theorem dX3_tellBetween_35 : decode cX3_tellBetween 35 = .ok (.getfield 15, 3) := by decide +kernel
theorem dX3_tellBetween_38 : decode cX3_tellBetween 38 = .ok (.iload 7, 2) := by decide +kernel
theorem dX3_tellBetween_40 : decode cX3_tellBetween 40 = .ok (.iaload, 1) := by decide +kernel
theorem dX3_tellBetween_41 : decode cX3_tellBetween 41 = .ok (.iconst 3, 1) := by decide +kernel
theorem dX3_tellBetween_42 : decode cX3_tellBetween 42 = .ok (.if_icmp .eq 30, 3) := by decide +kernel
theorem dX3_tellBetween_45 : decode cX3_tellBetween 45 = .ok (.aload_n 0, 1) := by decide +kernel
theorem dX3_tellBetween_46 : decode cX3_tellBetween 46 = .ok (.iload 7, 2) := by decide +kernel
theorem dX3_tellBetween_48 : decode cX3_tellBetween 48 = .ok (.iconst 0, 1) := by decide +kernel
theorem dX3_tellBetween_49 : decode cX3_tellBetween 49 = .ok (.lload_n 3, 1) := by decide +kernel
theorem dX3_tellBetween_50 : decode cX3_tellBetween 50 = .ok (.lload 5, 2) := by decide +kernel
theorem dX3_tellBetween_52 : decode cX3_tellBetween 52 = .ok (.invokevirtual 102, 3) := by decide +kernel
theorem dX3_tellBetween_55 : decode cX3_tellBetween 55 = .ok (.lstore 8, 2) := by decide +kernel
theorem dX3_tellBetween_57 : decode cX3_tellBetween 57 = .ok (.aload_n 0, 1) := by decide +kernel
theorem dX3_tellBetween_58 : decode cX3_tellBetween 58 = .ok (.iload 7, 2) := by decide +kernel
theorem dX3_tellBetween_60 : decode cX3_tellBetween 60 = .ok (.iconst 1, 1) := by decide +kernel
theorem dX3_tellBetween_61 : decode cX3_tellBetween 61 = .ok (.lload_n 3, 1) := by decide +kernel
theorem dX3_tellBetween_62 : decode cX3_tellBetween 62 = .ok (.lload 5, 2) := by decide +kernel
theorem dX3_tellBetween_64 : decode cX3_tellBetween 64 = .ok (.invokevirtual 102, 3) := by decide +kernel
theorem dX3_tellBetween_67 : decode cX3_tellBetween 67 = .ok (.lstore 5, 2) := by decide +kernel
theorem dX3_tellBetween_69 : decode cX3_tellBetween 69 = .ok (.lload 8, 2) := by decide +kernel
theorem dX3_tellBetween_71 : decode cX3_tellBetween 71 = .ok (.lstore_n 3, 1) := by decide +kernel
theorem dX3_tellBetween_72 : decode cX3_tellBetween 72 = .ok (.iinc 7 1, 3) := by decide +kernel
theorem dX3_tellBetween_75 : decode cX3_tellBetween 75 = .ok (.goto (-50), 3) := by decide +kernel
theorem dX3_tellBetween_78 : decode cX3_tellBetween 78 = .ok (.iload_n 2, 1) := by decide +kernel
theorem dX3_tellBetween_79 : decode cX3_tellBetween 79 = .ok (.ifCond .ne 7, 3) := by decide +kernel
theorem dX3_tellBetween_82 : decode cX3_tellBetween 82 = .ok (.lload_n 3, 1) := by decide +kernel
theorem dX3_tellBetween_83 : decode cX3_tellBetween 83 = .ok (.goto 5, 3) := by decide +kernel
theorem dX3_tellBetween_86 : decode cX3_tellBetween 86 = .ok (.lload 5, 2) := by decide +kernel
theorem dX3_tellBetween_88 : decode cX3_tellBetween 88 = .ok (.lreturn, 1) := by decide +kernel
set_option maxRecDepth 20000 in
theorem ggX3_tellNext_X3_fits : GoodIn wsX3_tellNext wsX3_fits := goodIn_r _ [5, 6, 7, 8, 9, 10, 4, 11, 12, 13, 14, 15, 16, 17, 18, 19, 20] (by decide +kernel) (by decide +kernel)
set_option maxRecDepth 20000 in
theorem gX3_tellNext_X3_fits : GoodIn wsX3_tellNext (wsV RX3 106 RX3 yX3_fits wsX3_fits) := goodIn_app (goodIn_of _ (by decide +kernel)) ggX3_tellNext_X3_fits
theorem dX3_tellNext_0 : decode cX3_tellNext 0 = .ok (.aload_n 0, 1) := by decide +kernel
theorem dX3_tellNext_1 : decode cX3_tellNext 1 = .ok (.iload_n 1, 1) := by decide +kernel
theorem dX3_tellNext_2 : decode cX3_tellNext 2 = .ok (.iconst 0, 1) := by decide +kernel
theorem dX3_tellNext_3 : decode cX3_tellNext 3 = .ok (.iload_n 2, 1) := by decide +kernel
theorem dX3_tellNext_4 : decode cX3_tellNext 4 = .ok (.invokevirtual 106, 3) := by decide +kernel
theorem dX3_tellNext_7 : decode cX3_tellNext 7 = .ok (.ifCond .eq 7, 3) := by decide +kernel
theorem dX3_tellNext_10 : decode cX3_tellNext 10 = .ok (.lload_n 3, 1) := by decide +kernel
theorem dX3_tellNext_11 : decode cX3_tellNext 11 = .ok (.goto 4, 3) := by decide +kernel
theorem dX3_tellNext_14 : decode cX3_tellNext 14 = .ok (.lconst 0, 1) := by decide +kernel
theorem dX3_tellNext_15 : decode cX3_tellNext 15 = .ok (.aload_n 0, 1) := by decide +kernel
theorem dX3_tellNext_16 : decode cX3_tellNext 16 = .ok (.iload_n 1, 1) := by decide +kernel
theorem dX3_tellNext_17 : decode cX3_tellNext 17 = .ok (.iconst 1, 1) := by decide +kernel
theorem dX3_tellNext_18 : decode cX3_tellNext 18 = .ok (.iload_n 2, 1) := by decide +kernel
theorem dX3_tellNext_19 : decode cX3_tellNext 19 = .ok (.invokevirtual 106, 3) := by decide +kernel
theorem dX3_tellNext_22 : decode cX3_tellNext 22 = .ok (.ifCond .eq 8, 3) := by decide +kernel
theorem dX3_tellNext_25 : decode cX3_tellNext 25 = .ok (.lload 5, 2) := by decide +kernel
theorem dX3_tellNext_27 : decode cX3_tellNext 27 = .ok (.goto 4, 3) := by decide +kernel
theorem dX3_tellNext_30 : decode cX3_tellNext 30 = .ok (.lconst 0, 1) := by decide +kernel
theorem dX3_tellNext_31 : decode cX3_tellNext 31 = .ok (.ladd, 1) := by decide +kernel
theorem dX3_tellNext_32 : decode cX3_tellNext 32 = .ok (.lreturn, 1) := by decide +kernel
set_option maxRecDepth 20000 in
theorem ggX3_tellEach_X3_load : GoodIn wsX3_tellEach wsX3_load := goodIn_r _ [9, 1, 2, 3, 4, 10, 11, 12, 13, 14, 15, 16, 17, 18, 19, 20, 21, 22, 23, 24, 25, 26, 27, 28, 29, 30, 31, 32, 33, 34, 8, 35, 36, 37, 38, 39, 63, 64, 65, 66, 67, 68, 69, 70, 71, 72] (by decide +kernel) (by decide +kernel)
set_option maxRecDepth 20000 in
theorem gX3_tellEach_X3_load : GoodIn wsX3_tellEach (wsV RX3 89 RX3 yX3_load wsX3_load) := goodIn_app (goodIn_of _ (by decide +kernel)) ggX3_tellEach_X3_load
set_option maxRecDepth 20000 in
theorem ggX3_tellEach_X2_strokesOf : GoodIn wsX3_tellEach wsX2_strokesOf := goodIn_r _ [43, 24, 19, 44, 26, 27, 28, 45, 30, 31, 63, 64, 65] (by decide +kernel) (by decide +kernel)
set_option maxRecDepth 20000 in
theorem gX3_tellEach_X2_strokesOf : GoodIn wsX3_tellEach (wsV RX3 110 RX2 yX2_strokesOf wsX2_strokesOf) := goodIn_app (goodIn_of _ (by decide +kernel)) ggX3_tellEach_X2_strokesOf
set_option maxRecDepth 20000 in
theorem ggX3_tellEach_X3_take : GoodIn wsX3_tellEach wsX3_take := goodIn_r _ [49, 10, 50, 11, 66, 67, 68, 69, 70, 71, 72] (by decide +kernel) (by decide +kernel)
set_option maxRecDepth 20000 in
theorem gX3_tellEach_X3_take : GoodIn wsX3_tellEach (wsV RX3 113 RX3 yX3_take wsX3_take) := goodIn_app (goodIn_of _ (by decide +kernel)) ggX3_tellEach_X3_take
set_option maxRecDepth 20000 in
theorem ggX3_tellEach_X3_firstClash : GoodIn wsX3_tellEach wsX3_firstClash := goodIn_r _ [54, 10, 50, 55, 56, 57, 8, 58, 59, 60, 61, 62, 12, 13, 66, 67, 68, 69, 70, 71, 72] (by decide +kernel) (by decide +kernel)
set_option maxRecDepth 20000 in
theorem gX3_tellEach_X3_firstClash : GoodIn wsX3_tellEach (wsV RX3 117 RX3 yX3_firstClash wsX3_firstClash) := goodIn_app (goodIn_of _ (by decide +kernel)) ggX3_tellEach_X3_firstClash
theorem dX3_tellEach_0 : decode cX3_tellEach 0 = .ok (.aload_n 0, 1) := by decide +kernel
theorem dX3_tellEach_1 : decode cX3_tellEach 1 = .ok (.aload_n 1, 1) := by decide +kernel
theorem dX3_tellEach_2 : decode cX3_tellEach 2 = .ok (.iload_n 2, 1) := by decide +kernel
theorem dX3_tellEach_3 : decode cX3_tellEach 3 = .ok (.invokevirtual 89, 3) := by decide +kernel
theorem dX3_tellEach_6 : decode cX3_tellEach 6 = .ok (.aload_n 1, 1) := by decide +kernel
theorem dX3_tellEach_7 : decode cX3_tellEach 7 = .ok (.iconst 2, 1) := by decide +kernel
theorem dX3_tellEach_8 : decode cX3_tellEach 8 = .ok (.invokevirtual 110, 3) := by decide +kernel
theorem dX3_tellEach_11 : decode cX3_tellEach 11 = .ok (.bipush 8, 2) := by decide +kernel
theorem dX3_tellEach_13 : decode cX3_tellEach 13 = .ok (.invokestatic 53, 3) := by decide +kernel
theorem dX3_tellEach_16 : decode cX3_tellEach 16 = .ok (.istore_n 3, 1) := by decide +kernel
theorem dX3_tellEach_17 : decode cX3_tellEach 17 = .ok (.iconst 0, 1) := by decide +kernel
theorem dX3_tellEach_18 : decode cX3_tellEach 18 = .ok (.istore 4, 2) := by decide +kernel
theorem dX3_tellEach_20 : decode cX3_tellEach 20 = .ok (.iconst 0, 1) := by decide +kernel
theorem dX3_tellEach_21 : decode cX3_tellEach 21 = .ok (.istore 5, 2) := by decide +kernel
theorem dX3_tellEach_23 : decode cX3_tellEach 23 = .ok (.iload 5, 2) := by decide +kernel
theorem dX3_tellEach_25 : decode cX3_tellEach 25 = .ok (.iconst 1, 1) := by decide +kernel
theorem dX3_tellEach_26 : decode cX3_tellEach 26 = .ok (.iload_n 3, 1) := by decide +kernel
theorem dX3_tellEach_27 : decode cX3_tellEach 27 = .ok (.ishl, 1) := by decide +kernel
theorem dX3_tellEach_28 : decode cX3_tellEach 28 = .ok (.if_icmp .ge 27, 3) := by decide +kernel
theorem dX3_tellEach_31 : decode cX3_tellEach 31 = .ok (.aload_n 0, 1) := by decide +kernel
theorem dX3_tellEach_32 : decode cX3_tellEach 32 = .ok (.iload 5, 2) := by decide +kernel
theorem dX3_tellEach_34 : decode cX3_tellEach 34 = .ok (.invokevirtual 113, 3) := by decide +kernel
theorem dX3_tellEach_37 : decode cX3_tellEach 37 = .ok (.aload_n 0, 1) := by decide +kernel
theorem dX3_tellEach_38 : decode cX3_tellEach 38 = .ok (.invokevirtual 117, 3) := by decide +kernel
theorem dX3_tellEach_41 : decode cX3_tellEach 41 = .ok (.bipush (-4), 2) := by decide +kernel
theorem dX3_tellEach_43 : decode cX3_tellEach 43 = .ok (.if_icmp .ne 6, 3) := by decide +kernel
theorem dX3_tellEach_46 : decode cX3_tellEach 46 = .ok (.iinc 4 1, 3) := by decide +kernel
theorem dX3_tellEach_49 : decode cX3_tellEach 49 = .ok (.iinc 5 1, 3) := by decide +kernel
theorem dX3_tellEach_52 : decode cX3_tellEach 52 = .ok (.goto (-29), 3) := by decide +kernel
theorem dX3_tellEach_55 : decode cX3_tellEach 55 = .ok (.iload 4, 2) := by decide +kernel
theorem dX3_tellEach_57 : decode cX3_tellEach 57 = .ok (.ireturn, 1) := by decide +kernel
set_option maxRecDepth 20000 in
theorem ggX3_clashOfOnly_X3_load : GoodIn wsX3_clashOfOnly wsX3_load := goodIn_r _ [5, 6, 7, 8, 9, 10, 11, 12, 13, 14, 15, 16, 17, 18, 19, 20, 21, 22, 23, 24, 25, 26, 27, 28, 29, 30, 31, 32, 33, 34, 4, 35, 36, 37, 38, 39, 57, 58, 59, 60, 61, 62, 63, 64, 65, 66] (by decide +kernel) (by decide +kernel)
set_option maxRecDepth 20000 in
theorem gX3_clashOfOnly_X3_load : GoodIn wsX3_clashOfOnly (wsV RX3 89 RX3 yX3_load wsX3_load) := goodIn_app (goodIn_of _ (by decide +kernel)) ggX3_clashOfOnly_X3_load
set_option maxRecDepth 20000 in
theorem ggX3_clashOfOnly_X3_take : GoodIn wsX3_clashOfOnly wsX3_take := goodIn_r _ [43, 10, 44, 11, 60, 61, 62, 63, 64, 65, 66] (by decide +kernel) (by decide +kernel)
set_option maxRecDepth 20000 in
theorem gX3_clashOfOnly_X3_take : GoodIn wsX3_clashOfOnly (wsV RX3 113 RX3 yX3_take wsX3_take) := goodIn_app (goodIn_of _ (by decide +kernel)) ggX3_clashOfOnly_X3_take
set_option maxRecDepth 20000 in
theorem ggX3_clashOfOnly_X3_firstClash : GoodIn wsX3_clashOfOnly wsX3_firstClash := goodIn_r _ [48, 10, 44, 49, 50, 51, 4, 52, 53, 54, 55, 56, 12, 13, 60, 61, 62, 63, 64, 65, 66] (by decide +kernel) (by decide +kernel)
set_option maxRecDepth 20000 in
theorem gX3_clashOfOnly_X3_firstClash : GoodIn wsX3_clashOfOnly (wsV RX3 117 RX3 yX3_firstClash wsX3_firstClash) := goodIn_app (goodIn_of _ (by decide +kernel)) ggX3_clashOfOnly_X3_firstClash
theorem dX3_clashOfOnly_0 : decode cX3_clashOfOnly 0 = .ok (.aload_n 0, 1) := by decide +kernel
theorem dX3_clashOfOnly_1 : decode cX3_clashOfOnly 1 = .ok (.aload_n 1, 1) := by decide +kernel
theorem dX3_clashOfOnly_2 : decode cX3_clashOfOnly 2 = .ok (.iconst 0, 1) := by decide +kernel
theorem dX3_clashOfOnly_3 : decode cX3_clashOfOnly 3 = .ok (.invokevirtual 89, 3) := by decide +kernel
theorem dX3_clashOfOnly_6 : decode cX3_clashOfOnly 6 = .ok (.aload_n 0, 1) := by decide +kernel
theorem dX3_clashOfOnly_7 : decode cX3_clashOfOnly 7 = .ok (.iconst 0, 1) := by decide +kernel
theorem dX3_clashOfOnly_8 : decode cX3_clashOfOnly 8 = .ok (.invokevirtual 113, 3) := by decide +kernel
theorem dX3_clashOfOnly_11 : decode cX3_clashOfOnly 11 = .ok (.aload_n 0, 1) := by decide +kernel
theorem dX3_clashOfOnly_12 : decode cX3_clashOfOnly 12 = .ok (.invokevirtual 117, 3) := by decide +kernel
theorem dX3_clashOfOnly_15 : decode cX3_clashOfOnly 15 = .ok (.ireturn, 1) := by decide +kernel
theorem dX3_take_0 : decode cX3_take 0 = .ok (.iload_n 1, 1) := by decide +kernel
theorem dX3_take_1 : decode cX3_take 1 = .ok (.istore_n 2, 1) := by decide +kernel
theorem dX3_take_2 : decode cX3_take 2 = .ok (.iconst 0, 1) := by decide +kernel
theorem dX3_take_3 : decode cX3_take 3 = .ok (.istore_n 3, 1) := by decide +kernel
theorem dX3_take_4 : decode cX3_take 4 = .ok (.iload_n 3, 1) := by decide +kernel
theorem dX3_take_5 : decode cX3_take 5 = .ok (.aload_n 0, 1) := by decide +kernel
theorem dX3_take_6 : decode cX3_take 6 = .ok (.getfield 31, 3) := by decide +kernel
theorem dX3_take_9 : decode cX3_take 9 = .ok (.if_icmp .ge 44, 3) := by decide +kernel
theorem dX3_take_12 : decode cX3_take 12 = .ok (.aload_n 0, 1) := by decide +kernel
theorem dX3_take_13 : decode cX3_take 13 = .ok (.getfield 25, 3) := by decide +kernel
theorem dX3_take_16 : decode cX3_take 16 = .ok (.iload_n 3, 1) := by decide +kernel
theorem dX3_take_17 : decode cX3_take 17 = .ok (.aload_n 0, 1) := by decide +kernel
theorem dX3_take_18 : decode cX3_take 18 = .ok (.getfield 15, 3) := by decide +kernel
theorem dX3_take_21 : decode cX3_take 21 = .ok (.iload_n 3, 1) := by decide +kernel
theorem dX3_take_22 : decode cX3_take 22 = .ok (.iaload, 1) := by decide +kernel
theorem dX3_take_23 : decode cX3_take 23 = .ok (.iastore, 1) := by decide +kernel
theorem dX3_take_24 : decode cX3_take 24 = .ok (.aload_n 0, 1) := by decide +kernel
theorem dX3_take_25 : decode cX3_take 25 = .ok (.getfield 15, 3) := by decide +kernel
theorem dX3_take_28 : decode cX3_take 28 = .ok (.iload_n 3, 1) := by decide +kernel
theorem dX3_take_29 : decode cX3_take 29 = .ok (.iaload, 1) := by decide +kernel
theorem dX3_take_30 : decode cX3_take 30 = .ok (.iconst 2, 1) := by decide +kernel
theorem dX3_take_31 : decode cX3_take 31 = .ok (.if_icmp .ne 16, 3) := by decide +kernel
theorem dX3_take_34 : decode cX3_take 34 = .ok (.aload_n 0, 1) := by decide +kernel
theorem dX3_take_35 : decode cX3_take 35 = .ok (.getfield 25, 3) := by decide +kernel
theorem dX3_take_38 : decode cX3_take 38 = .ok (.iload_n 3, 1) := by decide +kernel
theorem dX3_take_39 : decode cX3_take 39 = .ok (.iload_n 2, 1) := by decide +kernel
theorem dX3_take_40 : decode cX3_take 40 = .ok (.iconst 1, 1) := by decide +kernel
theorem dX3_take_41 : decode cX3_take 41 = .ok (.iand, 1) := by decide +kernel
theorem dX3_take_42 : decode cX3_take 42 = .ok (.iastore, 1) := by decide +kernel
theorem dX3_take_43 : decode cX3_take 43 = .ok (.iload_n 2, 1) := by decide +kernel
theorem dX3_take_44 : decode cX3_take 44 = .ok (.iconst 1, 1) := by decide +kernel
theorem dX3_take_45 : decode cX3_take 45 = .ok (.ishr, 1) := by decide +kernel
theorem dX3_take_46 : decode cX3_take 46 = .ok (.istore_n 2, 1) := by decide +kernel
theorem dX3_take_47 : decode cX3_take 47 = .ok (.iinc 3 1, 3) := by decide +kernel
theorem dX3_take_50 : decode cX3_take 50 = .ok (.goto (-46), 3) := by decide +kernel
theorem dX3_take_53 : decode cX3_take 53 = .ok (.return_, 1) := by decide +kernel
set_option maxRecDepth 20000 in
theorem ggX3_firstClash_X3_handAt : GoodIn wsX3_firstClash wsX3_handAt := goodIn_r _ [7, 1, 2, 14, 15, 16, 17, 18, 19, 20] (by decide +kernel) (by decide +kernel)
set_option maxRecDepth 20000 in
theorem gX3_firstClash_X3_handAt : GoodIn wsX3_firstClash (wsV RX3 120 RX3 yX3_handAt wsX3_handAt) := goodIn_app (goodIn_of _ (by decide +kernel)) ggX3_firstClash_X3_handAt
set_option maxRecDepth 20000 in
theorem ggX3_firstClash_X3_collides : GoodIn wsX3_firstClash wsX3_collides := goodIn_r _ [11, 1, 12, 13, 14, 15, 16, 17, 18, 19, 20] (by decide +kernel) (by decide +kernel)
set_option maxRecDepth 20000 in
theorem gX3_firstClash_X3_collides : GoodIn wsX3_firstClash (wsV RX3 81 RX3 yX3_collides wsX3_collides) := goodIn_app (goodIn_of _ (by decide +kernel)) ggX3_firstClash_X3_collides
theorem dX3_firstClash_0 : decode cX3_firstClash 0 = .ok (.aload_n 0, 1) := by decide +kernel
theorem dX3_firstClash_1 : decode cX3_firstClash 1 = .ok (.aload_n 0, 1) := by decide +kernel
theorem dX3_firstClash_2 : decode cX3_firstClash 2 = .ok (.getfield 31, 3) := by decide +kernel
theorem dX3_firstClash_5 : decode cX3_firstClash 5 = .ok (.iconst 1, 1) := by decide +kernel
theorem dX3_firstClash_6 : decode cX3_firstClash 6 = .ok (.isub, 1) := by decide +kernel
theorem dX3_firstClash_7 : decode cX3_firstClash 7 = .ok (.invokevirtual 120, 3) := by decide +kernel
theorem dX3_firstClash_10 : decode cX3_firstClash 10 = .ok (.istore_n 1, 1) := by decide +kernel
theorem dX3_firstClash_11 : decode cX3_firstClash 11 = .ok (.iconst 0, 1) := by decide +kernel
theorem dX3_firstClash_12 : decode cX3_firstClash 12 = .ok (.istore_n 2, 1) := by decide +kernel
theorem dX3_firstClash_13 : decode cX3_firstClash 13 = .ok (.iload_n 2, 1) := by decide +kernel
theorem dX3_firstClash_14 : decode cX3_firstClash 14 = .ok (.aload_n 0, 1) := by decide +kernel
theorem dX3_firstClash_15 : decode cX3_firstClash 15 = .ok (.getfield 31, 3) := by decide +kernel
theorem dX3_firstClash_18 : decode cX3_firstClash 18 = .ok (.if_icmp .ge 41, 3) := by decide +kernel
theorem dX3_firstClash_21 : decode cX3_firstClash 21 = .ok (.aload_n 0, 1) := by decide +kernel
theorem dX3_firstClash_22 : decode cX3_firstClash 22 = .ok (.iload_n 2, 1) := by decide +kernel
theorem dX3_firstClash_23 : decode cX3_firstClash 23 = .ok (.iload_n 1, 1) := by decide +kernel
theorem dX3_firstClash_24 : decode cX3_firstClash 24 = .ok (.aload_n 0, 1) := by decide +kernel
theorem dX3_firstClash_25 : decode cX3_firstClash 25 = .ok (.getfield 25, 3) := by decide +kernel
theorem dX3_firstClash_28 : decode cX3_firstClash 28 = .ok (.iload_n 2, 1) := by decide +kernel
theorem dX3_firstClash_29 : decode cX3_firstClash 29 = .ok (.iaload, 1) := by decide +kernel
theorem dX3_firstClash_30 : decode cX3_firstClash 30 = .ok (.if_icmp .ne 7, 3) := by decide +kernel
theorem dX3_firstClash_33 : decode cX3_firstClash 33 = .ok (.iconst 1, 1) := by decide +kernel
theorem dX3_firstClash_34 : decode cX3_firstClash 34 = .ok (.goto 4, 3) := by decide +kernel
theorem dX3_firstClash_37 : decode cX3_firstClash 37 = .ok (.iconst 0, 1) := by decide +kernel
theorem dX3_firstClash_38 : decode cX3_firstClash 38 = .ok (.invokevirtual 81, 3) := by decide +kernel
theorem dX3_firstClash_41 : decode cX3_firstClash 41 = .ok (.ifCond .eq 5, 3) := by decide +kernel
theorem dX3_firstClash_44 : decode cX3_firstClash 44 = .ok (.iload_n 2, 1) := by decide +kernel
theorem dX3_firstClash_45 : decode cX3_firstClash 45 = .ok (.ireturn, 1) := by decide +kernel
theorem dX3_firstClash_46 : decode cX3_firstClash 46 = .ok (.aload_n 0, 1) := by decide +kernel
theorem dX3_firstClash_47 : decode cX3_firstClash 47 = .ok (.getfield 25, 3) := by decide +kernel
theorem dX3_firstClash_50 : decode cX3_firstClash 50 = .ok (.iload_n 2, 1) := by decide +kernel
theorem dX3_firstClash_51 : decode cX3_firstClash 51 = .ok (.iaload, 1) := by decide +kernel
theorem dX3_firstClash_52 : decode cX3_firstClash 52 = .ok (.istore_n 1, 1) := by decide +kernel
theorem dX3_firstClash_53 : decode cX3_firstClash 53 = .ok (.iinc 2 1, 3) := by decide +kernel
theorem dX3_firstClash_56 : decode cX3_firstClash 56 = .ok (.goto (-43), 3) := by decide +kernel
theorem dX3_firstClash_59 : decode cX3_firstClash 59 = .ok (.bipush (-4), 2) := by decide +kernel
theorem dX3_firstClash_61 : decode cX3_firstClash 61 = .ok (.ireturn, 1) := by decide +kernel
set_option maxRecDepth 20000 in
theorem ggX3_canChoose_X3_load : GoodIn wsX3_canChoose wsX3_load := goodIn_r _ [8, 9, 10, 11, 12, 1, 2, 13, 14, 15, 16, 17, 18, 19, 20, 21, 22, 23, 24, 25, 26, 27, 28, 29, 30, 31, 32, 33, 34, 35, 7, 36, 37, 38, 39, 40, 73, 74, 75, 66, 67, 68, 69, 70, 71, 72] (by decide +kernel) (by decide +kernel)
set_option maxRecDepth 20000 in
theorem gX3_canChoose_X3_load : GoodIn wsX3_canChoose (wsV RX3 89 RX3 yX3_load wsX3_load) := goodIn_app (goodIn_of _ (by decide +kernel)) ggX3_canChoose_X3_load
set_option maxRecDepth 20000 in
theorem ggX3_canChoose_X3_fillFewest : GoodIn wsX3_canChoose wsX3_fillFewest := goodIn_r _ [44, 1, 2, 9, 10, 11, 12, 45, 46, 47, 7, 48, 49, 50, 51, 52, 53, 54, 55, 56, 57, 58, 59, 60, 61, 62, 63, 64, 65, 13, 14, 66, 67, 68, 69, 70, 71, 72] (by decide +kernel) (by decide +kernel)
set_option maxRecDepth 20000 in
theorem gX3_canChoose_X3_fillFewest : GoodIn wsX3_canChoose (wsV RX3 123 RX3 yX3_fillFewest wsX3_fillFewest) := goodIn_app (goodIn_of _ (by decide +kernel)) ggX3_canChoose_X3_fillFewest
set_option maxRecDepth 20000 in
theorem ggX3_canChoose_X3_fewestFrom : GoodIn wsX3_canChoose wsX3_fewestFrom := goodIn_r _ [53, 49, 66, 67, 68, 69, 70, 71, 72] (by decide +kernel) (by decide +kernel)
set_option maxRecDepth 20000 in
theorem gX3_canChoose_X3_fewestFrom : GoodIn wsX3_canChoose (wsV RX3 126 RX3 yX3_fewestFrom wsX3_fewestFrom) := goodIn_app (goodIn_of _ (by decide +kernel)) ggX3_canChoose_X3_fewestFrom
set_option maxRecDepth 20000 in
theorem ggX3_canChoose_X3_fewestWith : GoodIn wsX3_canChoose wsX3_fewestWith := goodIn_r _ [57, 9, 10, 11, 12, 58, 59, 60, 7, 61, 1, 2, 62, 63, 64, 65, 13, 14, 50, 51, 52, 53, 49, 66, 67, 68, 69, 70, 71, 72] (by decide +kernel) (by decide +kernel)
set_option maxRecDepth 20000 in
theorem gX3_canChoose_X3_fewestWith : GoodIn wsX3_canChoose (wsV RX3 129 RX3 yX3_fewestWith wsX3_fewestWith) := goodIn_app (goodIn_of _ (by decide +kernel)) ggX3_canChoose_X3_fewestWith
theorem dX3_canChoose_0 : decode cX3_canChoose 0 = .ok (.aload_n 0, 1) := by decide +kernel
theorem dX3_canChoose_1 : decode cX3_canChoose 1 = .ok (.aload_n 1, 1) := by decide +kernel
theorem dX3_canChoose_2 : decode cX3_canChoose 2 = .ok (.iconst 0, 1) := by decide +kernel
theorem dX3_canChoose_3 : decode cX3_canChoose 3 = .ok (.invokevirtual 89, 3) := by decide +kernel
theorem dX3_canChoose_6 : decode cX3_canChoose 6 = .ok (.iload_n 2, 1) := by decide +kernel
theorem dX3_canChoose_7 : decode cX3_canChoose 7 = .ok (.ifCond .eq 7, 3) := by decide +kernel
theorem dX3_canChoose_10 : decode cX3_canChoose 10 = .ok (.iconst 1, 1) := by decide +kernel
theorem dX3_canChoose_11 : decode cX3_canChoose 11 = .ok (.goto 4, 3) := by decide +kernel
theorem dX3_canChoose_14 : decode cX3_canChoose 14 = .ok (.iconst 0, 1) := by decide +kernel
theorem dX3_canChoose_15 : decode cX3_canChoose 15 = .ok (.istore_n 3, 1) := by decide +kernel
theorem dX3_canChoose_16 : decode cX3_canChoose 16 = .ok (.aload_n 0, 1) := by decide +kernel
theorem dX3_canChoose_17 : decode cX3_canChoose 17 = .ok (.iload_n 3, 1) := by decide +kernel
theorem dX3_canChoose_18 : decode cX3_canChoose 18 = .ok (.invokevirtual 123, 3) := by decide +kernel
theorem dX3_canChoose_21 : decode cX3_canChoose 21 = .ok (.aload_n 0, 1) := by decide +kernel
theorem dX3_canChoose_22 : decode cX3_canChoose 22 = .ok (.iconst 0, 1) := by decide +kernel
theorem dX3_canChoose_23 : decode cX3_canChoose 23 = .ok (.iconst 3, 1) := by decide +kernel
theorem dX3_canChoose_24 : decode cX3_canChoose 24 = .ok (.invokevirtual 126, 3) := by decide +kernel
theorem dX3_canChoose_27 : decode cX3_canChoose 27 = .ok (.sipush 1000, 3) := by decide +kernel
theorem dX3_canChoose_30 : decode cX3_canChoose 30 = .ok (.if_icmp .lt 5, 3) := by decide +kernel
theorem dX3_canChoose_33 : decode cX3_canChoose 33 = .ok (.iconst 0, 1) := by decide +kernel
theorem dX3_canChoose_34 : decode cX3_canChoose 34 = .ok (.ireturn, 1) := by decide +kernel
theorem dX3_canChoose_35 : decode cX3_canChoose 35 = .ok (.iconst 3, 1) := by decide +kernel
theorem dX3_canChoose_36 : decode cX3_canChoose 36 = .ok (.istore 4, 2) := by decide +kernel
theorem dX3_canChoose_38 : decode cX3_canChoose 38 = .ok (.iconst 0, 1) := by decide +kernel
theorem dX3_canChoose_39 : decode cX3_canChoose 39 = .ok (.istore 5, 2) := by decide +kernel
theorem dX3_canChoose_41 : decode cX3_canChoose 41 = .ok (.iload 5, 2) := by decide +kernel
theorem dX3_canChoose_43 : decode cX3_canChoose 43 = .ok (.aload_n 0, 1) := by decide +kernel
theorem dX3_canChoose_44 : decode cX3_canChoose 44 = .ok (.getfield 31, 3) := by decide +kernel
theorem dX3_canChoose_47 : decode cX3_canChoose 47 = .ok (.if_icmp .ge 63, 3) := by decide +kernel
theorem dX3_canChoose_50 : decode cX3_canChoose 50 = .ok (.aload_n 0, 1) := by decide +kernel
theorem dX3_canChoose_51 : decode cX3_canChoose 51 = .ok (.getfield 15, 3) := by decide +kernel
theorem dX3_canChoose_54 : decode cX3_canChoose 54 = .ok (.iload 5, 2) := by decide +kernel
theorem dX3_canChoose_56 : decode cX3_canChoose 56 = .ok (.iaload, 1) := by decide +kernel
theorem dX3_canChoose_57 : decode cX3_canChoose 57 = .ok (.iconst 3, 1) := by decide +kernel
theorem dX3_canChoose_58 : decode cX3_canChoose 58 = .ok (.if_icmp .eq 46, 3) := by decide +kernel
theorem dX3_canChoose_61 : decode cX3_canChoose 61 = .ok (.aload_n 0, 1) := by decide +kernel
theorem dX3_canChoose_62 : decode cX3_canChoose 62 = .ok (.iload 5, 2) := by decide +kernel
theorem dX3_canChoose_64 : decode cX3_canChoose 64 = .ok (.iload 4, 2) := by decide +kernel
theorem dX3_canChoose_66 : decode cX3_canChoose 66 = .ok (.iconst 0, 1) := by decide +kernel
theorem dX3_canChoose_67 : decode cX3_canChoose 67 = .ok (.iload_n 3, 1) := by decide +kernel
theorem dX3_canChoose_68 : decode cX3_canChoose 68 = .ok (.invokevirtual 129, 3) := by decide +kernel
theorem dX3_canChoose_71 : decode cX3_canChoose 71 = .ok (.istore 6, 2) := by decide +kernel
theorem dX3_canChoose_73 : decode cX3_canChoose 73 = .ok (.iload 6, 2) := by decide +kernel
theorem dX3_canChoose_75 : decode cX3_canChoose 75 = .ok (.aload_n 0, 1) := by decide +kernel
theorem dX3_canChoose_76 : decode cX3_canChoose 76 = .ok (.iload 5, 2) := by decide +kernel
theorem dX3_canChoose_78 : decode cX3_canChoose 78 = .ok (.iload 4, 2) := by decide +kernel
theorem dX3_canChoose_80 : decode cX3_canChoose 80 = .ok (.iconst 1, 1) := by decide +kernel
theorem dX3_canChoose_81 : decode cX3_canChoose 81 = .ok (.iload_n 3, 1) := by decide +kernel
theorem dX3_canChoose_82 : decode cX3_canChoose 82 = .ok (.invokevirtual 129, 3) := by decide +kernel
theorem dX3_canChoose_85 : decode cX3_canChoose 85 = .ok (.if_icmp .gt 7, 3) := by decide +kernel
theorem dX3_canChoose_88 : decode cX3_canChoose 88 = .ok (.iconst 0, 1) := by decide +kernel
theorem dX3_canChoose_89 : decode cX3_canChoose 89 = .ok (.goto 4, 3) := by decide +kernel
theorem dX3_canChoose_92 : decode cX3_canChoose 92 = .ok (.iconst 1, 1) := by decide +kernel
theorem dX3_canChoose_93 : decode cX3_canChoose 93 = .ok (.istore 4, 2) := by decide +kernel
theorem dX3_canChoose_95 : decode cX3_canChoose 95 = .ok (.aload_n 0, 1) := by decide +kernel
theorem dX3_canChoose_96 : decode cX3_canChoose 96 = .ok (.getfield 25, 3) := by decide +kernel
theorem dX3_canChoose_99 : decode cX3_canChoose 99 = .ok (.iload 5, 2) := by decide +kernel
theorem dX3_canChoose_101 : decode cX3_canChoose 101 = .ok (.iload 4, 2) := by decide +kernel
theorem dX3_canChoose_103 : decode cX3_canChoose 103 = .ok (.iastore, 1) := by decide +kernel
theorem dX3_canChoose_104 : decode cX3_canChoose 104 = .ok (.iinc 5 1, 3) := by decide +kernel
theorem dX3_canChoose_107 : decode cX3_canChoose 107 = .ok (.goto (-66), 3) := by decide +kernel
theorem dX3_canChoose_110 : decode cX3_canChoose 110 = .ok (.iconst 1, 1) := by decide +kernel
theorem dX3_canChoose_111 : decode cX3_canChoose 111 = .ok (.ireturn, 1) := by decide +kernel
theorem dX3_handAt_0 : decode cX3_handAt 0 = .ok (.iload_n 1, 1) := by decide +kernel
theorem dX3_handAt_1 : decode cX3_handAt 1 = .ok (.ifCond .lt 20, 3) := by decide +kernel
theorem dX3_handAt_4 : decode cX3_handAt 4 = .ok (.iload_n 1, 1) := by decide +kernel
theorem dX3_handAt_5 : decode cX3_handAt 5 = .ok (.aload_n 0, 1) := by decide +kernel
theorem dX3_handAt_6 : decode cX3_handAt 6 = .ok (.getfield 31, 3) := by decide +kernel
theorem dX3_handAt_9 : decode cX3_handAt 9 = .ok (.if_icmp .ge 12, 3) := by decide +kernel
theorem dX3_handAt_12 : decode cX3_handAt 12 = .ok (.aload_n 0, 1) := by decide +kernel
theorem dX3_handAt_13 : decode cX3_handAt 13 = .ok (.getfield 25, 3) := by decide +kernel
theorem dX3_handAt_16 : decode cX3_handAt 16 = .ok (.iload_n 1, 1) := by decide +kernel
theorem dX3_handAt_17 : decode cX3_handAt 17 = .ok (.iaload, 1) := by decide +kernel
theorem dX3_handAt_18 : decode cX3_handAt 18 = .ok (.goto 4, 3) := by decide +kernel
theorem dX3_handAt_21 : decode cX3_handAt 21 = .ok (.iconst 3, 1) := by decide +kernel
theorem dX3_handAt_22 : decode cX3_handAt 22 = .ok (.ireturn, 1) := by decide +kernel
set_option maxRecDepth 20000 in
theorem ggX3_repeatedHands_X3_fewestFrom : GoodIn wsX3_repeatedHands wsX3_fewestFrom := goodIn_r _ [5, 6, 7, 8, 9, 10, 11, 12, 13] (by decide +kernel) (by decide +kernel)
set_option maxRecDepth 20000 in
theorem gX3_repeatedHands_X3_fewestFrom : GoodIn wsX3_repeatedHands (wsV RX3 126 RX3 yX3_fewestFrom wsX3_fewestFrom) := goodIn_app (goodIn_of _ (by decide +kernel)) ggX3_repeatedHands_X3_fewestFrom
theorem dX3_repeatedHands_0 : decode cX3_repeatedHands 0 = .ok (.aload_n 0, 1) := by decide +kernel
theorem dX3_repeatedHands_1 : decode cX3_repeatedHands 1 = .ok (.iconst 0, 1) := by decide +kernel
theorem dX3_repeatedHands_2 : decode cX3_repeatedHands 2 = .ok (.iconst 3, 1) := by decide +kernel
theorem dX3_repeatedHands_3 : decode cX3_repeatedHands 3 = .ok (.invokevirtual 126, 3) := by decide +kernel
theorem dX3_repeatedHands_6 : decode cX3_repeatedHands 6 = .ok (.ireturn, 1) := by decide +kernel
set_option maxRecDepth 20000 in
theorem ggX3_fillFewest_X3_keepFewest : GoodIn wsX3_fillFewest wsX3_keepFewest := goodIn_r _ [11, 12, 31, 32, 33, 34, 35, 36, 37] (by decide +kernel) (by decide +kernel)
set_option maxRecDepth 20000 in
theorem gX3_fillFewest_X3_keepFewest : GoodIn wsX3_fillFewest (wsV RX3 133 RX3 yX3_keepFewest wsX3_keepFewest) := goodIn_app (goodIn_of _ (by decide +kernel)) ggX3_fillFewest_X3_keepFewest
set_option maxRecDepth 20000 in
theorem ggX3_fillFewest_X3_fewestFrom : GoodIn wsX3_fillFewest wsX3_fewestFrom := goodIn_r _ [16, 12, 31, 32, 33, 34, 35, 36, 37] (by decide +kernel) (by decide +kernel)
set_option maxRecDepth 20000 in
theorem gX3_fillFewest_X3_fewestFrom : GoodIn wsX3_fillFewest (wsV RX3 126 RX3 yX3_fewestFrom wsX3_fewestFrom) := goodIn_app (goodIn_of _ (by decide +kernel)) ggX3_fillFewest_X3_fewestFrom
set_option maxRecDepth 20000 in
theorem ggX3_fillFewest_X3_fewestWith : GoodIn wsX3_fillFewest wsX3_fewestWith := goodIn_r _ [20, 3, 4, 5, 6, 21, 22, 23, 10, 24, 1, 2, 25, 26, 27, 28, 29, 30, 13, 14, 15, 16, 12, 31, 32, 33, 34, 35, 36, 37] (by decide +kernel) (by decide +kernel)
set_option maxRecDepth 20000 in
theorem gX3_fillFewest_X3_fewestWith : GoodIn wsX3_fillFewest (wsV RX3 129 RX3 yX3_fewestWith wsX3_fewestWith) := goodIn_app (goodIn_of _ (by decide +kernel)) ggX3_fillFewest_X3_fewestWith
theorem dX3_fillFewest_0 : decode cX3_fillFewest 0 = .ok (.iconst 0, 1) := by decide +kernel
theorem dX3_fillFewest_1 : decode cX3_fillFewest 1 = .ok (.istore_n 2, 1) := by decide +kernel
theorem dX3_fillFewest_2 : decode cX3_fillFewest 2 = .ok (.iload_n 2, 1) := by decide +kernel
theorem dX3_fillFewest_3 : decode cX3_fillFewest 3 = .ok (.iconst 4, 1) := by decide +kernel
theorem dX3_fillFewest_4 : decode cX3_fillFewest 4 = .ok (.if_icmp .ge 19, 3) := by decide +kernel
theorem dX3_fillFewest_7 : decode cX3_fillFewest 7 = .ok (.aload_n 0, 1) := by decide +kernel
theorem dX3_fillFewest_8 : decode cX3_fillFewest 8 = .ok (.aload_n 0, 1) := by decide +kernel
theorem dX3_fillFewest_9 : decode cX3_fillFewest 9 = .ok (.getfield 31, 3) := by decide +kernel
theorem dX3_fillFewest_12 : decode cX3_fillFewest 12 = .ok (.iload_n 2, 1) := by decide +kernel
theorem dX3_fillFewest_13 : decode cX3_fillFewest 13 = .ok (.iconst 0, 1) := by decide +kernel
theorem dX3_fillFewest_14 : decode cX3_fillFewest 14 = .ok (.invokevirtual 133, 3) := by decide +kernel
theorem dX3_fillFewest_17 : decode cX3_fillFewest 17 = .ok (.iinc 2 1, 3) := by decide +kernel
theorem dX3_fillFewest_20 : decode cX3_fillFewest 20 = .ok (.goto (-18), 3) := by decide +kernel
theorem dX3_fillFewest_23 : decode cX3_fillFewest 23 = .ok (.aload_n 0, 1) := by decide +kernel
theorem dX3_fillFewest_24 : decode cX3_fillFewest 24 = .ok (.getfield 31, 3) := by decide +kernel
theorem dX3_fillFewest_27 : decode cX3_fillFewest 27 = .ok (.iconst 1, 1) := by decide +kernel
theorem dX3_fillFewest_28 : decode cX3_fillFewest 28 = .ok (.isub, 1) := by decide +kernel
theorem dX3_fillFewest_29 : decode cX3_fillFewest 29 = .ok (.istore_n 2, 1) := by decide +kernel
theorem dX3_fillFewest_30 : decode cX3_fillFewest 30 = .ok (.iload_n 2, 1) := by decide +kernel
theorem dX3_fillFewest_31 : decode cX3_fillFewest 31 = .ok (.ifCond .lt 82, 3) := by decide +kernel
theorem dX3_fillFewest_34 : decode cX3_fillFewest 34 = .ok (.iconst 0, 1) := by decide +kernel
theorem dX3_fillFewest_35 : decode cX3_fillFewest 35 = .ok (.istore_n 3, 1) := by decide +kernel
theorem dX3_fillFewest_36 : decode cX3_fillFewest 36 = .ok (.iload_n 3, 1) := by decide +kernel
theorem dX3_fillFewest_37 : decode cX3_fillFewest 37 = .ok (.iconst 4, 1) := by decide +kernel
theorem dX3_fillFewest_38 : decode cX3_fillFewest 38 = .ok (.if_icmp .ge 69, 3) := by decide +kernel
theorem dX3_fillFewest_41 : decode cX3_fillFewest 41 = .ok (.aload_n 0, 1) := by decide +kernel
theorem dX3_fillFewest_42 : decode cX3_fillFewest 42 = .ok (.getfield 15, 3) := by decide +kernel
theorem dX3_fillFewest_45 : decode cX3_fillFewest 45 = .ok (.iload_n 2, 1) := by decide +kernel
theorem dX3_fillFewest_46 : decode cX3_fillFewest 46 = .ok (.iaload, 1) := by decide +kernel
theorem dX3_fillFewest_47 : decode cX3_fillFewest 47 = .ok (.iconst 3, 1) := by decide +kernel
theorem dX3_fillFewest_48 : decode cX3_fillFewest 48 = .ok (.if_icmp .ne 20, 3) := by decide +kernel
theorem dX3_fillFewest_51 : decode cX3_fillFewest 51 = .ok (.aload_n 0, 1) := by decide +kernel
theorem dX3_fillFewest_52 : decode cX3_fillFewest 52 = .ok (.iload_n 2, 1) := by decide +kernel
theorem dX3_fillFewest_53 : decode cX3_fillFewest 53 = .ok (.iload_n 3, 1) := by decide +kernel
theorem dX3_fillFewest_54 : decode cX3_fillFewest 54 = .ok (.aload_n 0, 1) := by decide +kernel
theorem dX3_fillFewest_55 : decode cX3_fillFewest 55 = .ok (.iload_n 2, 1) := by decide +kernel
theorem dX3_fillFewest_56 : decode cX3_fillFewest 56 = .ok (.iconst 1, 1) := by decide +kernel
theorem dX3_fillFewest_57 : decode cX3_fillFewest 57 = .ok (.iadd, 1) := by decide +kernel
theorem dX3_fillFewest_58 : decode cX3_fillFewest 58 = .ok (.iload_n 3, 1) := by decide +kernel
theorem dX3_fillFewest_59 : decode cX3_fillFewest 59 = .ok (.invokevirtual 126, 3) := by decide +kernel
theorem dX3_fillFewest_62 : decode cX3_fillFewest 62 = .ok (.invokevirtual 133, 3) := by decide +kernel
theorem dX3_fillFewest_65 : decode cX3_fillFewest 65 = .ok (.goto 36, 3) := by decide +kernel
theorem dX3_fillFewest_68 : decode cX3_fillFewest 68 = .ok (.aload_n 0, 1) := by decide +kernel
theorem dX3_fillFewest_69 : decode cX3_fillFewest 69 = .ok (.iload_n 2, 1) := by decide +kernel
theorem dX3_fillFewest_70 : decode cX3_fillFewest 70 = .ok (.iload_n 3, 1) := by decide +kernel
theorem dX3_fillFewest_71 : decode cX3_fillFewest 71 = .ok (.iconst 0, 1) := by decide +kernel
theorem dX3_fillFewest_72 : decode cX3_fillFewest 72 = .ok (.iload_n 1, 1) := by decide +kernel
theorem dX3_fillFewest_73 : decode cX3_fillFewest 73 = .ok (.invokevirtual 129, 3) := by decide +kernel
theorem dX3_fillFewest_76 : decode cX3_fillFewest 76 = .ok (.istore 4, 2) := by decide +kernel
theorem dX3_fillFewest_78 : decode cX3_fillFewest 78 = .ok (.aload_n 0, 1) := by decide +kernel
theorem dX3_fillFewest_79 : decode cX3_fillFewest 79 = .ok (.iload_n 2, 1) := by decide +kernel
theorem dX3_fillFewest_80 : decode cX3_fillFewest 80 = .ok (.iload_n 3, 1) := by decide +kernel
theorem dX3_fillFewest_81 : decode cX3_fillFewest 81 = .ok (.iconst 1, 1) := by decide +kernel
theorem dX3_fillFewest_82 : decode cX3_fillFewest 82 = .ok (.iload_n 1, 1) := by decide +kernel
theorem dX3_fillFewest_83 : decode cX3_fillFewest 83 = .ok (.invokevirtual 129, 3) := by decide +kernel
theorem dX3_fillFewest_86 : decode cX3_fillFewest 86 = .ok (.istore 5, 2) := by decide +kernel
theorem dX3_fillFewest_88 : decode cX3_fillFewest 88 = .ok (.aload_n 0, 1) := by decide +kernel
theorem dX3_fillFewest_89 : decode cX3_fillFewest 89 = .ok (.iload_n 2, 1) := by decide +kernel
theorem dX3_fillFewest_90 : decode cX3_fillFewest 90 = .ok (.iload_n 3, 1) := by decide +kernel
theorem dX3_fillFewest_91 : decode cX3_fillFewest 91 = .ok (.iload 4, 2) := by decide +kernel
theorem dX3_fillFewest_93 : decode cX3_fillFewest 93 = .ok (.iload 5, 2) := by decide +kernel
theorem dX3_fillFewest_95 : decode cX3_fillFewest 95 = .ok (.invokestatic 53, 3) := by decide +kernel
theorem dX3_fillFewest_98 : decode cX3_fillFewest 98 = .ok (.invokevirtual 133, 3) := by decide +kernel
theorem dX3_fillFewest_101 : decode cX3_fillFewest 101 = .ok (.iinc 3 1, 3) := by decide +kernel
theorem dX3_fillFewest_104 : decode cX3_fillFewest 104 = .ok (.goto (-68), 3) := by decide +kernel
theorem dX3_fillFewest_107 : decode cX3_fillFewest 107 = .ok (.iinc 2 (-1), 3) := by decide +kernel
theorem dX3_fillFewest_110 : decode cX3_fillFewest 110 = .ok (.goto (-80), 3) := by decide +kernel
theorem dX3_fillFewest_113 : decode cX3_fillFewest 113 = .ok (.return_, 1) := by decide +kernel
set_option maxRecDepth 20000 in
theorem ggX3_fewestWith_X3_fits : GoodIn wsX3_fewestWith wsX3_fits := goodIn_r _ [9, 10, 11, 12, 13, 14, 8, 15, 16, 17, 23, 24, 25, 26, 27, 28, 29] (by decide +kernel) (by decide +kernel)
set_option maxRecDepth 20000 in
theorem gX3_fewestWith_X3_fits : GoodIn wsX3_fewestWith (wsV RX3 106 RX3 yX3_fits wsX3_fits) := goodIn_app (goodIn_of _ (by decide +kernel)) ggX3_fewestWith_X3_fits
set_option maxRecDepth 20000 in
theorem ggX3_fewestWith_X3_fewestFrom : GoodIn wsX3_fewestWith wsX3_fewestFrom := goodIn_r _ [21, 22, 23, 24, 25, 26, 27, 28, 29] (by decide +kernel) (by decide +kernel)
set_option maxRecDepth 20000 in
theorem gX3_fewestWith_X3_fewestFrom : GoodIn wsX3_fewestWith (wsV RX3 126 RX3 yX3_fewestFrom wsX3_fewestFrom) := goodIn_app (goodIn_of _ (by decide +kernel)) ggX3_fewestWith_X3_fewestFrom
theorem dX3_fewestWith_0 : decode cX3_fewestWith 0 = .ok (.aload_n 0, 1) := by decide +kernel
theorem dX3_fewestWith_1 : decode cX3_fewestWith 1 = .ok (.iload_n 1, 1) := by decide +kernel
theorem dX3_fewestWith_2 : decode cX3_fewestWith 2 = .ok (.iload_n 2, 1) := by decide +kernel
theorem dX3_fewestWith_3 : decode cX3_fewestWith 3 = .ok (.iload_n 3, 1) := by decide +kernel
theorem dX3_fewestWith_4 : decode cX3_fewestWith 4 = .ok (.invokevirtual 106, 3) := by decide +kernel
theorem dX3_fewestWith_7 : decode cX3_fewestWith 7 = .ok (.ifCond .ne 7, 3) := by decide +kernel
theorem dX3_fewestWith_10 : decode cX3_fewestWith 10 = .ok (.sipush 1000, 3) := by decide +kernel
theorem dX3_fewestWith_13 : decode cX3_fewestWith 13 = .ok (.ireturn, 1) := by decide +kernel
theorem dX3_fewestWith_14 : decode cX3_fewestWith 14 = .ok (.iload_n 2, 1) := by decide +kernel
theorem dX3_fewestWith_15 : decode cX3_fewestWith 15 = .ok (.iload_n 3, 1) := by decide +kernel
theorem dX3_fewestWith_16 : decode cX3_fewestWith 16 = .ok (.if_icmp .ne 8, 3) := by decide +kernel
theorem dX3_fewestWith_19 : decode cX3_fewestWith 19 = .ok (.iload 4, 2) := by decide +kernel
theorem dX3_fewestWith_21 : decode cX3_fewestWith 21 = .ok (.goto 4, 3) := by decide +kernel
theorem dX3_fewestWith_24 : decode cX3_fewestWith 24 = .ok (.iconst 0, 1) := by decide +kernel
theorem dX3_fewestWith_25 : decode cX3_fewestWith 25 = .ok (.istore 5, 2) := by decide +kernel
theorem dX3_fewestWith_27 : decode cX3_fewestWith 27 = .ok (.sipush 1000, 3) := by decide +kernel
theorem dX3_fewestWith_30 : decode cX3_fewestWith 30 = .ok (.aload_n 0, 1) := by decide +kernel
theorem dX3_fewestWith_31 : decode cX3_fewestWith 31 = .ok (.iload_n 1, 1) := by decide +kernel
theorem dX3_fewestWith_32 : decode cX3_fewestWith 32 = .ok (.iconst 1, 1) := by decide +kernel
theorem dX3_fewestWith_33 : decode cX3_fewestWith 33 = .ok (.iadd, 1) := by decide +kernel
theorem dX3_fewestWith_34 : decode cX3_fewestWith 34 = .ok (.iload_n 3, 1) := by decide +kernel
theorem dX3_fewestWith_35 : decode cX3_fewestWith 35 = .ok (.invokevirtual 126, 3) := by decide +kernel
theorem dX3_fewestWith_38 : decode cX3_fewestWith 38 = .ok (.iload 5, 2) := by decide +kernel
theorem dX3_fewestWith_40 : decode cX3_fewestWith 40 = .ok (.iadd, 1) := by decide +kernel
theorem dX3_fewestWith_41 : decode cX3_fewestWith 41 = .ok (.invokestatic 53, 3) := by decide +kernel
theorem dX3_fewestWith_44 : decode cX3_fewestWith 44 = .ok (.ireturn, 1) := by decide +kernel
theorem dX3_fewestFrom_0 : decode cX3_fewestFrom 0 = .ok (.iload_n 1, 1) := by decide +kernel
theorem dX3_fewestFrom_1 : decode cX3_fewestFrom 1 = .ok (.iconst 4, 1) := by decide +kernel
theorem dX3_fewestFrom_2 : decode cX3_fewestFrom 2 = .ok (.imul, 1) := by decide +kernel
theorem dX3_fewestFrom_3 : decode cX3_fewestFrom 3 = .ok (.iload_n 2, 1) := by decide +kernel
theorem dX3_fewestFrom_4 : decode cX3_fewestFrom 4 = .ok (.iadd, 1) := by decide +kernel
theorem dX3_fewestFrom_5 : decode cX3_fewestFrom 5 = .ok (.istore_n 3, 1) := by decide +kernel
theorem dX3_fewestFrom_6 : decode cX3_fewestFrom 6 = .ok (.iload_n 3, 1) := by decide +kernel
theorem dX3_fewestFrom_7 : decode cX3_fewestFrom 7 = .ok (.ifCond .lt 21, 3) := by decide +kernel
theorem dX3_fewestFrom_10 : decode cX3_fewestFrom 10 = .ok (.iload_n 3, 1) := by decide +kernel
theorem dX3_fewestFrom_11 : decode cX3_fewestFrom 11 = .ok (.aload_n 0, 1) := by decide +kernel
theorem dX3_fewestFrom_12 : decode cX3_fewestFrom 12 = .ok (.getfield 28, 3) := by decide +kernel
theorem dX3_fewestFrom_15 : decode cX3_fewestFrom 15 = .ok (.arraylength, 1) := by decide +kernel
theorem dX3_fewestFrom_16 : decode cX3_fewestFrom 16 = .ok (.if_icmp .ge 12, 3) := by decide +kernel
theorem dX3_fewestFrom_19 : decode cX3_fewestFrom 19 = .ok (.aload_n 0, 1) := by decide +kernel
theorem dX3_fewestFrom_20 : decode cX3_fewestFrom 20 = .ok (.getfield 28, 3) := by decide +kernel
theorem dX3_fewestFrom_23 : decode cX3_fewestFrom 23 = .ok (.iload_n 3, 1) := by decide +kernel
theorem dX3_fewestFrom_24 : decode cX3_fewestFrom 24 = .ok (.iaload, 1) := by decide +kernel
theorem dX3_fewestFrom_25 : decode cX3_fewestFrom 25 = .ok (.goto 6, 3) := by decide +kernel
theorem dX3_fewestFrom_28 : decode cX3_fewestFrom 28 = .ok (.sipush 1000, 3) := by decide +kernel
theorem dX3_fewestFrom_31 : decode cX3_fewestFrom 31 = .ok (.ireturn, 1) := by decide +kernel
theorem dX3_keepFewest_0 : decode cX3_keepFewest 0 = .ok (.iload_n 1, 1) := by decide +kernel
theorem dX3_keepFewest_1 : decode cX3_keepFewest 1 = .ok (.iconst 4, 1) := by decide +kernel
theorem dX3_keepFewest_2 : decode cX3_keepFewest 2 = .ok (.imul, 1) := by decide +kernel
theorem dX3_keepFewest_3 : decode cX3_keepFewest 3 = .ok (.iload_n 2, 1) := by decide +kernel
theorem dX3_keepFewest_4 : decode cX3_keepFewest 4 = .ok (.iadd, 1) := by decide +kernel
theorem dX3_keepFewest_5 : decode cX3_keepFewest 5 = .ok (.istore 4, 2) := by decide +kernel
theorem dX3_keepFewest_7 : decode cX3_keepFewest 7 = .ok (.iload 4, 2) := by decide +kernel
theorem dX3_keepFewest_9 : decode cX3_keepFewest 9 = .ok (.ifCond .lt 21, 3) := by decide +kernel
theorem dX3_keepFewest_12 : decode cX3_keepFewest 12 = .ok (.iload 4, 2) := by decide +kernel
theorem dX3_keepFewest_14 : decode cX3_keepFewest 14 = .ok (.aload_n 0, 1) := by decide +kernel
theorem dX3_keepFewest_15 : decode cX3_keepFewest 15 = .ok (.getfield 28, 3) := by decide +kernel
theorem dX3_keepFewest_18 : decode cX3_keepFewest 18 = .ok (.arraylength, 1) := by decide +kernel
theorem dX3_keepFewest_19 : decode cX3_keepFewest 19 = .ok (.if_icmp .ge 11, 3) := by decide +kernel
theorem dX3_keepFewest_22 : decode cX3_keepFewest 22 = .ok (.aload_n 0, 1) := by decide +kernel
theorem dX3_keepFewest_23 : decode cX3_keepFewest 23 = .ok (.getfield 28, 3) := by decide +kernel
theorem dX3_keepFewest_26 : decode cX3_keepFewest 26 = .ok (.iload 4, 2) := by decide +kernel
theorem dX3_keepFewest_28 : decode cX3_keepFewest 28 = .ok (.iload_n 3, 1) := by decide +kernel
theorem dX3_keepFewest_29 : decode cX3_keepFewest 29 = .ok (.iastore, 1) := by decide +kernel
theorem dX3_keepFewest_30 : decode cX3_keepFewest 30 = .ok (.return_, 1) := by decide +kernel
