theorem dX7_readPattern_14 : decode cX7_readPattern 14 = .ok (.iload_n 1, 1) := by decide +kernel
theorem dX7_readPattern_15 : decode cX7_readPattern 15 = .ok (.iaload, 1) := by decide +kernel
theorem dX7_readPattern_16 : decode cX7_readPattern 16 = .ok (.invokestatic 148, 3) := by decide +kernel
theorem dX7_readPattern_19 : decode cX7_readPattern 19 = .ok (.bipush (-4), 2) := by decide +kernel
theorem dX7_readPattern_21 : decode cX7_readPattern 21 = .ok (.if_icmp .ne 16, 3) := by decide +kernel
theorem dX7_readPattern_24 : decode cX7_readPattern 24 = .ok (.aload_n 0, 1) := by decide +kernel
theorem dX7_readPattern_25 : decode cX7_readPattern 25 = .ok (.getfield 19, 3) := by decide +kernel
theorem dX7_readPattern_28 : decode cX7_readPattern 28 = .ok (.iload_n 1, 1) := by decide +kernel
theorem dX7_readPattern_29 : decode cX7_readPattern 29 = .ok (.iaload, 1) := by decide +kernel
theorem dX7_readPattern_30 : decode cX7_readPattern 30 = .ok (.bipush 46, 2) := by decide +kernel
theorem dX7_readPattern_32 : decode cX7_readPattern 32 = .ok (.if_icmp .eq 5, 3) := by decide +kernel
theorem dX7_readPattern_35 : decode cX7_readPattern 35 = .ok (.iload_n 1, 1) := by decide +kernel
theorem dX7_readPattern_36 : decode cX7_readPattern 36 = .ok (.ireturn, 1) := by decide +kernel
theorem dX7_readPattern_37 : decode cX7_readPattern 37 = .ok (.iinc 1 1, 3) := by decide +kernel
theorem dX7_readPattern_40 : decode cX7_readPattern 40 = .ok (.goto (-38), 3) := by decide +kernel
theorem dX7_readPattern_43 : decode cX7_readPattern 43 = .ok (.aload_n 0, 1) := by decide +kernel
theorem dX7_readPattern_44 : decode cX7_readPattern 44 = .ok (.getfield 133, 3) := by decide +kernel
theorem dX7_readPattern_47 : decode cX7_readPattern 47 = .ok (.ifCond .ne 7, 3) := by decide +kernel
theorem dX7_readPattern_50 : decode cX7_readPattern 50 = .ok (.iconst 0, 1) := by decide +kernel
theorem dX7_readPattern_51 : decode cX7_readPattern 51 = .ok (.goto 5, 3) := by decide +kernel
theorem dX7_readPattern_54 : decode cX7_readPattern 54 = .ok (.bipush (-4), 2) := by decide +kernel
theorem dX7_readPattern_56 : decode cX7_readPattern 56 = .ok (.ireturn, 1) := by decide +kernel
set_option maxRecDepth 20000 in
theorem ggX7_fault_X7_readPiece : GoodIn wsX7_fault wsX7_readPiece := goodIn_r _ [5, 6, 7, 8, 9, 10, 11, 12, 13, 4, 14, 15, 16, 17, 18, 19, 20, 21, 22, 23, 24, 25, 26, 27, 28, 29, 30, 31, 32, 37, 38, 39, 40, 41, 42, 43, 44, 45, 46, 47, 48, 49, 50, 51, 52, 53] (by decide +kernel) (by decide +kernel)
set_option maxRecDepth 20000 in
theorem gX7_fault_X7_readPiece : GoodIn wsX7_fault (wsV RX7 151 RX7 yX7_readPiece wsX7_readPiece) := goodIn_app (goodIn_of _ (by decide +kernel)) ggX7_fault_X7_readPiece
set_option maxRecDepth 20000 in
theorem ggX7_fault_X7_readPattern : GoodIn wsX7_fault wsX7_readPattern := goodIn_r _ [36, 7, 8, 27, 28, 4, 29, 37, 38, 39, 40, 41, 42, 43, 44, 45, 46, 47, 48, 49, 50, 51, 52, 53] (by decide +kernel) (by decide +kernel)
set_option maxRecDepth 20000 in
theorem gX7_fault_X7_readPattern : GoodIn wsX7_fault (wsV RX7 154 RX7 yX7_readPattern wsX7_readPattern) := goodIn_app (goodIn_of _ (by decide +kernel)) ggX7_fault_X7_readPattern
theorem dX7_fault_0 : decode cX7_fault 0 = .ok (.iload_n 1, 1) := by decide +kernel
theorem dX7_fault_1 : decode cX7_fault 1 = .ok (.ifCond .ne 10, 3) := by decide +kernel
theorem dX7_fault_4 : decode cX7_fault 4 = .ok (.aload_n 0, 1) := by decide +kernel
theorem dX7_fault_5 : decode cX7_fault 5 = .ok (.invokevirtual 151, 3) := by decide +kernel
theorem dX7_fault_8 : decode cX7_fault 8 = .ok (.goto 16, 3) := by decide +kernel
theorem dX7_fault_11 : decode cX7_fault 11 = .ok (.iload_n 1, 1) := by decide +kernel
theorem dX7_fault_12 : decode cX7_fault 12 = .ok (.iconst 1, 1) := by decide +kernel
theorem dX7_fault_13 : decode cX7_fault 13 = .ok (.if_icmp .ne 10, 3) := by decide +kernel
theorem dX7_fault_16 : decode cX7_fault 16 = .ok (.aload_n 0, 1) := by decide +kernel
theorem dX7_fault_17 : decode cX7_fault 17 = .ok (.invokevirtual 154, 3) := by decide +kernel
theorem dX7_fault_20 : decode cX7_fault 20 = .ok (.goto 4, 3) := by decide +kernel
theorem dX7_fault_23 : decode cX7_fault 23 = .ok (.iconst (-1), 1) := by decide +kernel
theorem dX7_fault_24 : decode cX7_fault 24 = .ok (.ireturn, 1) := by decide +kernel
set_option maxRecDepth 20000 in
theorem ggX7_read_X7_readPiece : GoodIn wsX7_read wsX7_readPiece := goodIn_r _ [10, 1, 5, 11, 12, 13, 14, 15, 16, 9, 17, 4, 18, 19, 20, 21, 22, 23, 24, 25, 26, 27, 28, 29, 30, 31, 32, 33, 34, 41, 42, 43, 44, 45, 46, 47, 48, 49, 50, 51, 52, 53, 54, 55, 56, 57] (by decide +kernel) (by decide +kernel)
set_option maxRecDepth 20000 in
theorem gX7_read_X7_readPiece : GoodIn wsX7_read (wsV RX7 151 RX7 yX7_readPiece wsX7_readPiece) := goodIn_app (goodIn_of _ (by decide +kernel)) ggX7_read_X7_readPiece
set_option maxRecDepth 20000 in
theorem ggX7_read_X7_record : GoodIn wsX7_read wsX7_record := goodIn_r _ [38, 39, 40, 3, 41, 42, 43, 44, 45, 46, 47, 48, 49, 50, 51, 52, 53, 54, 55, 56, 57] (by decide +kernel) (by decide +kernel)
set_option maxRecDepth 20000 in
theorem gX7_read_X7_record : GoodIn wsX7_read (wsV RX7 117 RX7 yX7_record wsX7_record) := goodIn_app (goodIn_of _ (by decide +kernel)) ggX7_read_X7_record
theorem dX7_read_0 : decode cX7_read 0 = .ok (.aload_n 0, 1) := by decide +kernel
theorem dX7_read_1 : decode cX7_read 1 = .ok (.invokevirtual 151, 3) := by decide +kernel
theorem dX7_read_4 : decode cX7_read 4 = .ok (.bipush (-4), 2) := by decide +kernel
theorem dX7_read_6 : decode cX7_read 6 = .ok (.if_icmp .eq 7, 3) := by decide +kernel
theorem dX7_read_9 : decode cX7_read 9 = .ok (.iconst 1, 1) := by decide +kernel
theorem dX7_read_10 : decode cX7_read 10 = .ok (.goto 4, 3) := by decide +kernel
theorem dX7_read_13 : decode cX7_read 13 = .ok (.iconst 0, 1) := by decide +kernel
theorem dX7_read_14 : decode cX7_read 14 = .ok (.istore_n 1, 1) := by decide +kernel
theorem dX7_read_15 : decode cX7_read 15 = .ok (.aload_n 0, 1) := by decide +kernel
theorem dX7_read_16 : decode cX7_read 16 = .ok (.iload_n 1, 1) := by decide +kernel
theorem dX7_read_17 : decode cX7_read 17 = .ok (.ifCond .eq 7, 3) := by decide +kernel
theorem dX7_read_20 : decode cX7_read 20 = .ok (.iconst 1, 1) := by decide +kernel
theorem dX7_read_21 : decode cX7_read 21 = .ok (.goto 17, 3) := by decide +kernel
theorem dX7_read_24 : decode cX7_read 24 = .ok (.aload_n 0, 1) := by decide +kernel
theorem dX7_read_25 : decode cX7_read 25 = .ok (.getfield 136, 3) := by decide +kernel
theorem dX7_read_28 : decode cX7_read 28 = .ok (.bipush 32, 2) := by decide +kernel
theorem dX7_read_30 : decode cX7_read 30 = .ok (.if_icmp .le 7, 3) := by decide +kernel
theorem dX7_read_33 : decode cX7_read 33 = .ok (.iconst 2, 1) := by decide +kernel
theorem dX7_read_34 : decode cX7_read 34 = .ok (.goto 4, 3) := by decide +kernel
theorem dX7_read_37 : decode cX7_read 37 = .ok (.iconst 0, 1) := by decide +kernel
theorem dX7_read_38 : decode cX7_read 38 = .ok (.putfield 157, 3) := by decide +kernel
theorem dX7_read_41 : decode cX7_read 41 = .ok (.aload_n 0, 1) := by decide +kernel
theorem dX7_read_42 : decode cX7_read 42 = .ok (.getfield 157, 3) := by decide +kernel
theorem dX7_read_45 : decode cX7_read 45 = .ok (.ifCond .le 15, 3) := by decide +kernel
theorem dX7_read_48 : decode cX7_read 48 = .ok (.iload_n 1, 1) := by decide +kernel
theorem dX7_read_49 : decode cX7_read 49 = .ok (.ifCond .eq 8, 3) := by decide +kernel
theorem dX7_read_52 : decode cX7_read 52 = .ok (.bipush (-2), 2) := by decide +kernel
theorem dX7_read_54 : decode cX7_read 54 = .ok (.goto 5, 3) := by decide +kernel
theorem dX7_read_57 : decode cX7_read 57 = .ok (.bipush (-3), 2) := by decide +kernel
theorem dX7_read_59 : decode cX7_read 59 = .ok (.ireturn, 1) := by decide +kernel
theorem dX7_read_60 : decode cX7_read 60 = .ok (.aload_n 0, 1) := by decide +kernel
theorem dX7_read_61 : decode cX7_read 61 = .ok (.invokevirtual 117, 3) := by decide +kernel
theorem dX7_read_64 : decode cX7_read 64 = .ok (.aload_n 0, 1) := by decide +kernel
theorem dX7_read_65 : decode cX7_read 65 = .ok (.getfield 7, 3) := by decide +kernel
theorem dX7_read_68 : decode cX7_read 68 = .ok (.iconst 0, 1) := by decide +kernel
theorem dX7_read_69 : decode cX7_read 69 = .ok (.aload_n 0, 1) := by decide +kernel
theorem dX7_read_70 : decode cX7_read 70 = .ok (.getfield 136, 3) := by decide +kernel
theorem dX7_read_73 : decode cX7_read 73 = .ok (.iastore, 1) := by decide +kernel
theorem dX7_read_74 : decode cX7_read 74 = .ok (.iconst 0, 1) := by decide +kernel
theorem dX7_read_75 : decode cX7_read 75 = .ok (.istore_n 2, 1) := by decide +kernel
theorem dX7_read_76 : decode cX7_read 76 = .ok (.iload_n 2, 1) := by decide +kernel
theorem dX7_read_77 : decode cX7_read 77 = .ok (.bipush 32, 2) := by decide +kernel
theorem dX7_read_79 : decode cX7_read 79 = .ok (.if_icmp .ge 35, 3) := by decide +kernel
theorem dX7_read_82 : decode cX7_read 82 = .ok (.aload_n 0, 1) := by decide +kernel
theorem dX7_read_83 : decode cX7_read 83 = .ok (.getfield 7, 3) := by decide +kernel
theorem dX7_read_86 : decode cX7_read 86 = .ok (.iconst 2, 1) := by decide +kernel
theorem dX7_read_87 : decode cX7_read 87 = .ok (.iload_n 2, 1) := by decide +kernel
theorem dX7_read_88 : decode cX7_read 88 = .ok (.iadd, 1) := by decide +kernel
theorem dX7_read_89 : decode cX7_read 89 = .ok (.iload_n 2, 1) := by decide +kernel
theorem dX7_read_90 : decode cX7_read 90 = .ok (.aload_n 0, 1) := by decide +kernel
theorem dX7_read_91 : decode cX7_read 91 = .ok (.getfield 136, 3) := by decide +kernel
theorem dX7_read_94 : decode cX7_read 94 = .ok (.if_icmp .ge 12, 3) := by decide +kernel
theorem dX7_read_97 : decode cX7_read 97 = .ok (.aload_n 0, 1) := by decide +kernel
theorem dX7_read_98 : decode cX7_read 98 = .ok (.getfield 35, 3) := by decide +kernel
theorem dX7_read_101 : decode cX7_read 101 = .ok (.iload_n 2, 1) := by decide +kernel
theorem dX7_read_102 : decode cX7_read 102 = .ok (.iaload, 1) := by decide +kernel
theorem dX7_read_103 : decode cX7_read 103 = .ok (.goto 4, 3) := by decide +kernel
theorem dX7_read_106 : decode cX7_read 106 = .ok (.iconst 0, 1) := by decide +kernel
theorem dX7_read_107 : decode cX7_read 107 = .ok (.iastore, 1) := by decide +kernel
theorem dX7_read_108 : decode cX7_read 108 = .ok (.iinc 2 1, 3) := by decide +kernel
theorem dX7_read_111 : decode cX7_read 111 = .ok (.goto (-35), 3) := by decide +kernel
theorem dX7_read_114 : decode cX7_read 114 = .ok (.aload_n 0, 1) := by decide +kernel
theorem dX7_read_115 : decode cX7_read 115 = .ok (.iconst 0, 1) := by decide +kernel
theorem dX7_read_116 : decode cX7_read 116 = .ok (.putfield 133, 3) := by decide +kernel
theorem dX7_read_119 : decode cX7_read 119 = .ok (.aload_n 0, 1) := by decide +kernel
theorem dX7_read_120 : decode cX7_read 120 = .ok (.getfield 136, 3) := by decide +kernel
theorem dX7_read_123 : decode cX7_read 123 = .ok (.ireturn, 1) := by decide +kernel
theorem dX7_why_0 : decode cX7_why 0 = .ok (.aload_n 0, 1) := by decide +kernel
theorem dX7_why_1 : decode cX7_why 1 = .ok (.getfield 157, 3) := by decide +kernel
theorem dX7_why_4 : decode cX7_why 4 = .ok (.ireturn, 1) := by decide +kernel
set_option maxRecDepth 20000 in
theorem ggX7_write_X7_isStroke : GoodIn wsX7_write wsX7_isStroke := goodIn_r _ [6, 7, 8, 9, 5, 10, 11, 24, 25, 26, 27, 28, 29, 30, 31, 32, 33, 34, 35, 36, 37, 38, 39, 40] (by decide +kernel) (by decide +kernel)
set_option maxRecDepth 20000 in
theorem gX7_write_X7_isStroke : GoodIn wsX7_write (wsV RX7 55 RX7 yX7_isStroke wsX7_isStroke) := goodIn_app (goodIn_of _ (by decide +kernel)) ggX7_write_X7_isStroke
set_option maxRecDepth 20000 in
theorem ggX7_write_X7_accent : GoodIn wsX7_write wsX7_accent := goodIn_r _ [15, 2, 3, 4, 5, 6, 7, 8, 9, 10, 11, 24, 25, 26, 27, 28, 29, 30, 31, 32, 33, 34, 35, 36, 37, 38, 39, 40] (by decide +kernel) (by decide +kernel)
set_option maxRecDepth 20000 in
theorem gX7_write_X7_accent : GoodIn wsX7_write (wsV RX7 66 RX7 yX7_accent wsX7_accent) := goodIn_app (goodIn_of _ (by decide +kernel)) ggX7_write_X7_accent
set_option maxRecDepth 20000 in
theorem ggX7_write_X7_ornament : GoodIn wsX7_write wsX7_ornament := goodIn_r _ [19, 2, 3, 4, 5, 6, 7, 8, 9, 10, 11, 24, 25, 26, 27, 28, 29, 30, 31, 32, 33, 34, 35, 36, 37, 38, 39, 40] (by decide +kernel) (by decide +kernel)
set_option maxRecDepth 20000 in
theorem gX7_write_X7_ornament : GoodIn wsX7_write (wsV RX7 63 RX7 yX7_ornament wsX7_ornament) := goodIn_app (goodIn_of _ (by decide +kernel)) ggX7_write_X7_ornament
set_option maxRecDepth 20000 in
theorem ggX7_write_X7_hand : GoodIn wsX7_write wsX7_hand := goodIn_r _ [23, 7, 8, 9, 5, 10, 11, 24, 25, 26, 27, 28, 29, 30, 31, 32, 33, 34, 35, 36, 37, 38, 39, 40] (by decide +kernel) (by decide +kernel)
set_option maxRecDepth 20000 in
theorem gX7_write_X7_hand : GoodIn wsX7_write (wsV RX7 80 RX7 yX7_hand wsX7_hand) := goodIn_app (goodIn_of _ (by decide +kernel)) ggX7_write_X7_hand
theorem dX7_write_0 : decode cX7_write 0 = .ok (.aload_n 0, 1) := by decide +kernel
theorem dX7_write_1 : decode cX7_write 1 = .ok (.iload_n 1, 1) := by decide +kernel
theorem dX7_write_2 : decode cX7_write 2 = .ok (.invokevirtual 55, 3) := by decide +kernel
theorem dX7_write_5 : decode cX7_write 5 = .ok (.ifCond .ne 13, 3) := by decide +kernel
theorem dX7_write_8 : decode cX7_write 8 = .ok (.aload_n 0, 1) := by decide +kernel
theorem dX7_write_9 : decode cX7_write 9 = .ok (.getfield 44, 3) := by decide +kernel
theorem dX7_write_12 : decode cX7_write 12 = .ok (.iconst 0, 1) := by decide +kernel
theorem dX7_write_13 : decode cX7_write 13 = .ok (.bipush 46, 2) := by decide +kernel
theorem dX7_write_15 : decode cX7_write 15 = .ok (.iastore, 1) := by decide +kernel
theorem dX7_write_16 : decode cX7_write 16 = .ok (.iconst 1, 1) := by decide +kernel
theorem dX7_write_17 : decode cX7_write 17 = .ok (.ireturn, 1) := by decide +kernel
theorem dX7_write_18 : decode cX7_write 18 = .ok (.iconst 0, 1) := by decide +kernel
theorem dX7_write_19 : decode cX7_write 19 = .ok (.istore_n 2, 1) := by decide +kernel
theorem dX7_write_20 : decode cX7_write 20 = .ok (.aload_n 0, 1) := by decide +kernel
theorem dX7_write_21 : decode cX7_write 21 = .ok (.iload_n 1, 1) := by decide +kernel
theorem dX7_write_22 : decode cX7_write 22 = .ok (.invokevirtual 66, 3) := by decide +kernel
theorem dX7_write_25 : decode cX7_write 25 = .ok (.iconst 1, 1) := by decide +kernel
theorem dX7_write_26 : decode cX7_write 26 = .ok (.if_icmp .ne 14, 3) := by decide +kernel
theorem dX7_write_29 : decode cX7_write 29 = .ok (.aload_n 0, 1) := by decide +kernel
theorem dX7_write_30 : decode cX7_write 30 = .ok (.getfield 44, 3) := by decide +kernel
theorem dX7_write_33 : decode cX7_write 33 = .ok (.iload_n 2, 1) := by decide +kernel
theorem dX7_write_34 : decode cX7_write 34 = .ok (.bipush 62, 2) := by decide +kernel
theorem dX7_write_36 : decode cX7_write 36 = .ok (.iastore, 1) := by decide +kernel
theorem dX7_write_37 : decode cX7_write 37 = .ok (.iinc 2 1, 3) := by decide +kernel
theorem dX7_write_40 : decode cX7_write 40 = .ok (.aload_n 0, 1) := by decide +kernel
theorem dX7_write_41 : decode cX7_write 41 = .ok (.iload_n 1, 1) := by decide +kernel
theorem dX7_write_42 : decode cX7_write 42 = .ok (.invokevirtual 63, 3) := by decide +kernel
theorem dX7_write_45 : decode cX7_write 45 = .ok (.iconst 1, 1) := by decide +kernel
theorem dX7_write_46 : decode cX7_write 46 = .ok (.if_icmp .eq 12, 3) := by decide +kernel
theorem dX7_write_49 : decode cX7_write 49 = .ok (.aload_n 0, 1) := by decide +kernel
theorem dX7_write_50 : decode cX7_write 50 = .ok (.iload_n 1, 1) := by decide +kernel
theorem dX7_write_51 : decode cX7_write 51 = .ok (.invokevirtual 63, 3) := by decide +kernel
theorem dX7_write_54 : decode cX7_write 54 = .ok (.iconst 2, 1) := by decide +kernel
theorem dX7_write_55 : decode cX7_write 55 = .ok (.if_icmp .ne 28, 3) := by decide +kernel
theorem dX7_write_58 : decode cX7_write 58 = .ok (.aload_n 0, 1) := by decide +kernel
theorem dX7_write_59 : decode cX7_write 59 = .ok (.getfield 44, 3) := by decide +kernel
theorem dX7_write_62 : decode cX7_write 62 = .ok (.iload_n 2, 1) := by decide +kernel
theorem dX7_write_63 : decode cX7_write 63 = .ok (.aload_n 0, 1) := by decide +kernel
theorem dX7_write_64 : decode cX7_write 64 = .ok (.iload_n 1, 1) := by decide +kernel
theorem dX7_write_65 : decode cX7_write 65 = .ok (.invokevirtual 63, 3) := by decide +kernel
theorem dX7_write_68 : decode cX7_write 68 = .ok (.iconst 1, 1) := by decide +kernel
theorem dX7_write_69 : decode cX7_write 69 = .ok (.if_icmp .ne 8, 3) := by decide +kernel
theorem dX7_write_72 : decode cX7_write 72 = .ok (.bipush 102, 2) := by decide +kernel
theorem dX7_write_74 : decode cX7_write 74 = .ok (.goto 5, 3) := by decide +kernel
theorem dX7_write_77 : decode cX7_write 77 = .ok (.bipush 100, 2) := by decide +kernel
theorem dX7_write_79 : decode cX7_write 79 = .ok (.iastore, 1) := by decide +kernel
theorem dX7_write_80 : decode cX7_write 80 = .ok (.iinc 2 1, 3) := by decide +kernel
theorem dX7_write_83 : decode cX7_write 83 = .ok (.aload_n 0, 1) := by decide +kernel
theorem dX7_write_84 : decode cX7_write 84 = .ok (.getfield 44, 3) := by decide +kernel
theorem dX7_write_87 : decode cX7_write 87 = .ok (.iload_n 2, 1) := by decide +kernel
theorem dX7_write_88 : decode cX7_write 88 = .ok (.aload_n 0, 1) := by decide +kernel
theorem dX7_write_89 : decode cX7_write 89 = .ok (.iload_n 1, 1) := by decide +kernel
theorem dX7_write_90 : decode cX7_write 90 = .ok (.invokevirtual 80, 3) := by decide +kernel
theorem dX7_write_93 : decode cX7_write 93 = .ok (.ifCond .ne 8, 3) := by decide +kernel
theorem dX7_write_96 : decode cX7_write 96 = .ok (.bipush 82, 2) := by decide +kernel
theorem dX7_write_98 : decode cX7_write 98 = .ok (.goto 19, 3) := by decide +kernel
theorem dX7_write_101 : decode cX7_write 101 = .ok (.aload_n 0, 1) := by decide +kernel
theorem dX7_write_102 : decode cX7_write 102 = .ok (.iload_n 1, 1) := by decide +kernel
theorem dX7_write_103 : decode cX7_write 103 = .ok (.invokevirtual 80, 3) := by decide +kernel
theorem dX7_write_106 : decode cX7_write 106 = .ok (.iconst 1, 1) := by decide +kernel
theorem dX7_write_107 : decode cX7_write 107 = .ok (.if_icmp .ne 8, 3) := by decide +kernel
theorem dX7_write_110 : decode cX7_write 110 = .ok (.bipush 76, 2) := by decide +kernel
theorem dX7_write_112 : decode cX7_write 112 = .ok (.goto 5, 3) := by decide +kernel
theorem dX7_write_115 : decode cX7_write 115 = .ok (.bipush 120, 2) := by decide +kernel
theorem dX7_write_117 : decode cX7_write 117 = .ok (.iastore, 1) := by decide +kernel
theorem dX7_write_118 : decode cX7_write 118 = .ok (.iinc 2 1, 3) := by decide +kernel
theorem dX7_write_121 : decode cX7_write 121 = .ok (.aload_n 0, 1) := by decide +kernel
theorem dX7_write_122 : decode cX7_write 122 = .ok (.iload_n 1, 1) := by decide +kernel
theorem dX7_write_123 : decode cX7_write 123 = .ok (.invokevirtual 63, 3) := by decide +kernel
theorem dX7_write_126 : decode cX7_write 126 = .ok (.iconst 3, 1) := by decide +kernel
theorem dX7_write_127 : decode cX7_write 127 = .ok (.if_icmp .ne 14, 3) := by decide +kernel
theorem dX7_write_130 : decode cX7_write 130 = .ok (.aload_n 0, 1) := by decide +kernel
theorem dX7_write_131 : decode cX7_write 131 = .ok (.getfield 44, 3) := by decide +kernel
theorem dX7_write_134 : decode cX7_write 134 = .ok (.iload_n 2, 1) := by decide +kernel
theorem dX7_write_135 : decode cX7_write 135 = .ok (.bipush 42, 2) := by decide +kernel
theorem dX7_write_137 : decode cX7_write 137 = .ok (.iastore, 1) := by decide +kernel
theorem dX7_write_138 : decode cX7_write 138 = .ok (.iinc 2 1, 3) := by decide +kernel
theorem dX7_write_141 : decode cX7_write 141 = .ok (.iload_n 2, 1) := by decide +kernel
theorem dX7_write_142 : decode cX7_write 142 = .ok (.ireturn, 1) := by decide +kernel
set_option maxRecDepth 20000 in
theorem ggX7_sign_X7_write : GoodIn wsX7_sign wsX7_write := goodIn_r _ [7, 2, 8, 9, 10, 6, 11, 12, 13, 14, 15, 1, 16, 17, 18, 19, 20, 21, 22, 23, 24, 25, 26, 27, 28, 29, 30, 31, 32, 33, 34, 35, 36, 37, 38, 39, 40, 41, 42, 43, 44] (by decide +kernel) (by decide +kernel)
set_option maxRecDepth 20000 in
theorem gX7_sign_X7_write : GoodIn wsX7_sign (wsV RX7 160 RX7 yX7_write wsX7_write) := goodIn_app (goodIn_of _ (by decide +kernel)) ggX7_sign_X7_write
theorem dX7_sign_0 : decode cX7_sign 0 = .ok (.iload_n 1, 1) := by decide +kernel
theorem dX7_sign_1 : decode cX7_sign 1 = .ok (.ifCond .ge 5, 3) := by decide +kernel
theorem dX7_sign_4 : decode cX7_sign 4 = .ok (.iconst (-1), 1) := by decide +kernel
theorem dX7_sign_5 : decode cX7_sign 5 = .ok (.ireturn, 1) := by decide +kernel
theorem dX7_sign_6 : decode cX7_sign 6 = .ok (.iload_n 1, 1) := by decide +kernel
theorem dX7_sign_7 : decode cX7_sign 7 = .ok (.istore_n 2, 1) := by decide +kernel
theorem dX7_sign_8 : decode cX7_sign 8 = .ok (.iconst 0, 1) := by decide +kernel
theorem dX7_sign_9 : decode cX7_sign 9 = .ok (.istore_n 3, 1) := by decide +kernel
theorem dX7_sign_10 : decode cX7_sign 10 = .ok (.iload_n 3, 1) := by decide +kernel
theorem dX7_sign_11 : decode cX7_sign 11 = .ok (.aload_n 0, 1) := by decide +kernel
theorem dX7_sign_12 : decode cX7_sign 12 = .ok (.getfield 7, 3) := by decide +kernel
theorem dX7_sign_15 : decode cX7_sign 15 = .ok (.iconst 0, 1) := by decide +kernel
theorem dX7_sign_16 : decode cX7_sign 16 = .ok (.iaload, 1) := by decide +kernel
theorem dX7_sign_17 : decode cX7_sign 17 = .ok (.if_icmp .ge 34, 3) := by decide +kernel
theorem dX7_sign_20 : decode cX7_sign 20 = .ok (.aload_n 0, 1) := by decide +kernel
theorem dX7_sign_21 : decode cX7_sign 21 = .ok (.iload_n 3, 1) := by decide +kernel
theorem dX7_sign_22 : decode cX7_sign 22 = .ok (.invokevirtual 160, 3) := by decide +kernel
theorem dX7_sign_25 : decode cX7_sign 25 = .ok (.istore 4, 2) := by decide +kernel
theorem dX7_sign_27 : decode cX7_sign 27 = .ok (.iload_n 2, 1) := by decide +kernel
theorem dX7_sign_28 : decode cX7_sign 28 = .ok (.iload 4, 2) := by decide +kernel
theorem dX7_sign_30 : decode cX7_sign 30 = .ok (.if_icmp .ge 10, 3) := by decide +kernel
theorem dX7_sign_33 : decode cX7_sign 33 = .ok (.aload_n 0, 1) := by decide +kernel
theorem dX7_sign_34 : decode cX7_sign 34 = .ok (.getfield 44, 3) := by decide +kernel
theorem dX7_sign_37 : decode cX7_sign 37 = .ok (.iload_n 2, 1) := by decide +kernel
theorem dX7_sign_38 : decode cX7_sign 38 = .ok (.iaload, 1) := by decide +kernel
theorem dX7_sign_39 : decode cX7_sign 39 = .ok (.ireturn, 1) := by decide +kernel
theorem dX7_sign_40 : decode cX7_sign 40 = .ok (.iload_n 2, 1) := by decide +kernel
theorem dX7_sign_41 : decode cX7_sign 41 = .ok (.iload 4, 2) := by decide +kernel
theorem dX7_sign_43 : decode cX7_sign 43 = .ok (.isub, 1) := by decide +kernel
theorem dX7_sign_44 : decode cX7_sign 44 = .ok (.istore_n 2, 1) := by decide +kernel
theorem dX7_sign_45 : decode cX7_sign 45 = .ok (.iinc 3 1, 3) := by decide +kernel
theorem dX7_sign_48 : decode cX7_sign 48 = .ok (.goto (-38), 3) := by decide +kernel
theorem dX7_sign_51 : decode cX7_sign 51 = .ok (.bipush (-4), 2) := by decide +kernel
theorem dX7_sign_53 : decode cX7_sign 53 = .ok (.ireturn, 1) := by decide +kernel
set_option maxRecDepth 20000 in
theorem ggX7_forces_X7_blows : GoodIn wsX7_forces wsX7_blows := goodIn_r _ [5, 6, 7, 8, 4, 9, 10, 11, 12, 13, 14, 15, 16, 17, 18, 27, 28, 29, 30, 31, 32, 33, 34, 35, 36, 37, 38, 39, 40, 41, 42, 43] (by decide +kernel) (by decide +kernel)
set_option maxRecDepth 20000 in
theorem gX7_forces_X7_blows : GoodIn wsX7_forces (wsV RX7 69 RX7 yX7_blows wsX7_blows) := goodIn_app (goodIn_of _ (by decide +kernel)) ggX7_forces_X7_blows
set_option maxRecDepth 20000 in
theorem ggX7_forces_X7_force : GoodIn wsX7_forces wsX7_force := goodIn_r _ [22, 23, 24, 25, 4, 26, 6, 7, 8, 9, 10, 11, 12, 13, 14, 27, 28, 29, 30, 31, 32, 33, 34, 35, 36, 37, 38, 39, 40, 41, 42, 43] (by decide +kernel) (by decide +kernel)
set_option maxRecDepth 20000 in
theorem gX7_forces_X7_force : GoodIn wsX7_forces (wsV RX7 163 RX7 yX7_force wsX7_force) := goodIn_app (goodIn_of _ (by decide +kernel)) ggX7_forces_X7_force
theorem dX7_forces_0 : decode cX7_forces 0 = .ok (.iconst 0, 1) := by decide +kernel
theorem dX7_forces_1 : decode cX7_forces 1 = .ok (.istore_n 2, 1) := by decide +kernel
theorem dX7_forces_2 : decode cX7_forces 2 = .ok (.iconst 0, 1) := by decide +kernel
theorem dX7_forces_3 : decode cX7_forces 3 = .ok (.istore_n 3, 1) := by decide +kernel
theorem dX7_forces_4 : decode cX7_forces 4 = .ok (.iload_n 3, 1) := by decide +kernel
theorem dX7_forces_5 : decode cX7_forces 5 = .ok (.aload_n 0, 1) := by decide +kernel
theorem dX7_forces_6 : decode cX7_forces 6 = .ok (.iload_n 1, 1) := by decide +kernel
theorem dX7_forces_7 : decode cX7_forces 7 = .ok (.invokevirtual 69, 3) := by decide +kernel
theorem dX7_forces_10 : decode cX7_forces 10 = .ok (.if_icmp .ge 18, 3) := by decide +kernel
theorem dX7_forces_13 : decode cX7_forces 13 = .ok (.iload_n 2, 1) := by decide +kernel
theorem dX7_forces_14 : decode cX7_forces 14 = .ok (.aload_n 0, 1) := by decide +kernel
theorem dX7_forces_15 : decode cX7_forces 15 = .ok (.iload_n 1, 1) := by decide +kernel
theorem dX7_forces_16 : decode cX7_forces 16 = .ok (.iload_n 3, 1) := by decide +kernel
theorem dX7_forces_17 : decode cX7_forces 17 = .ok (.invokevirtual 163, 3) := by decide +kernel
theorem dX7_forces_20 : decode cX7_forces 20 = .ok (.iadd, 1) := by decide +kernel
theorem dX7_forces_21 : decode cX7_forces 21 = .ok (.istore_n 2, 1) := by decide +kernel
theorem dX7_forces_22 : decode cX7_forces 22 = .ok (.iinc 3 1, 3) := by decide +kernel
theorem dX7_forces_25 : decode cX7_forces 25 = .ok (.goto (-21), 3) := by decide +kernel
theorem dX7_forces_28 : decode cX7_forces 28 = .ok (.iload_n 2, 1) := by decide +kernel
theorem dX7_forces_29 : decode cX7_forces 29 = .ok (.ireturn, 1) := by decide +kernel
set_option maxRecDepth 20000 in
theorem ggX7_step_X7_isStep : GoodIn wsX7_step wsX7_isStep := goodIn_r _ [6, 7, 8, 9, 5, 10, 81, 82, 83, 84, 85, 86, 87, 88, 89, 90, 91, 92, 93, 94, 95, 96, 97] (by decide +kernel) (by decide +kernel)
set_option maxRecDepth 20000 in
theorem gX7_step_X7_isStep : GoodIn wsX7_step (wsV RX7 126 RX7 yX7_isStep wsX7_isStep) := goodIn_app (goodIn_of _ (by decide +kernel)) ggX7_step_X7_isStep
set_option maxRecDepth 20000 in
theorem ggX7_step_X7_isStroke : GoodIn wsX7_step wsX7_isStroke := goodIn_r _ [14, 15, 16, 17, 5, 18, 7, 81, 82, 83, 84, 85, 86, 87, 88, 89, 90, 91, 92, 93, 94, 95, 96, 97] (by decide +kernel) (by decide +kernel)
set_option maxRecDepth 20000 in
theorem gX7_step_X7_isStroke : GoodIn wsX7_step (wsV RX7 55 RX7 yX7_isStroke wsX7_isStroke) := goodIn_app (goodIn_of _ (by decide +kernel)) ggX7_step_X7_isStroke
set_option maxRecDepth 20000 in
theorem ggX7_step_X7_hand : GoodIn wsX7_step wsX7_hand := goodIn_r _ [22, 15, 16, 17, 5, 18, 7, 81, 82, 83, 84, 85, 86, 87, 88, 89, 90, 91, 92, 93, 94, 95, 96, 97] (by decide +kernel) (by decide +kernel)
set_option maxRecDepth 20000 in
theorem gX7_step_X7_hand : GoodIn wsX7_step (wsV RX7 80 RX7 yX7_hand wsX7_hand) := goodIn_app (goodIn_of _ (by decide +kernel)) ggX7_step_X7_hand
set_option maxRecDepth 20000 in
theorem ggX7_step_X7_accent : GoodIn wsX7_step wsX7_accent := goodIn_r _ [26, 11, 12, 13, 5, 14, 15, 16, 17, 18, 7, 81, 82, 83, 84, 85, 86, 87, 88, 89, 90, 91, 92, 93, 94, 95, 96, 97] (by decide +kernel) (by decide +kernel)
set_option maxRecDepth 20000 in
theorem gX7_step_X7_accent : GoodIn wsX7_step (wsV RX7 66 RX7 yX7_accent wsX7_accent) := goodIn_app (goodIn_of _ (by decide +kernel)) ggX7_step_X7_accent
set_option maxRecDepth 20000 in
theorem ggX7_step_X7_ornament : GoodIn wsX7_step wsX7_ornament := goodIn_r _ [30, 11, 12, 13, 5, 14, 15, 16, 17, 18, 7, 81, 82, 83, 84, 85, 86, 87, 88, 89, 90, 91, 92, 93, 94, 95, 96, 97] (by decide +kernel) (by decide +kernel)
set_option maxRecDepth 20000 in
theorem gX7_step_X7_ornament : GoodIn wsX7_step (wsV RX7 63 RX7 yX7_ornament wsX7_ornament) := goodIn_app (goodIn_of _ (by decide +kernel)) ggX7_step_X7_ornament
set_option maxRecDepth 20000 in
theorem ggX7_step_X7_blows : GoodIn wsX7_step wsX7_blows := goodIn_r _ [34, 11, 12, 13, 5, 14, 15, 16, 17, 18, 7, 27, 28, 29, 30, 81, 82, 83, 84, 85, 86, 87, 88, 89, 90, 91, 92, 93, 94, 95, 96, 97] (by decide +kernel) (by decide +kernel)
set_option maxRecDepth 20000 in
theorem gX7_step_X7_blows : GoodIn wsX7_step (wsV RX7 69 RX7 yX7_blows wsX7_blows) := goodIn_app (goodIn_of _ (by decide +kernel)) ggX7_step_X7_blows
set_option maxRecDepth 20000 in
theorem ggX7_step_X7_forces : GoodIn wsX7_step wsX7_forces := goodIn_r _ [38, 31, 32, 33, 5, 34, 11, 12, 13, 14, 15, 16, 17, 18, 7, 27, 28, 29, 30, 39, 40, 41, 42, 23, 24, 25, 26, 81, 82, 83, 84, 85, 86, 87, 88, 89, 90, 91, 92, 93, 94, 95, 96, 97] (by decide +kernel) (by decide +kernel)
set_option maxRecDepth 20000 in
theorem gX7_step_X7_forces : GoodIn wsX7_step (wsV RX7 166 RX7 yX7_forces wsX7_forces) := goodIn_app (goodIn_of _ (by decide +kernel)) ggX7_step_X7_forces
set_option maxRecDepth 20000 in
theorem ggX7_step_X7_stick : GoodIn wsX7_step wsX7_stick := goodIn_r _ [46, 7, 1, 47, 48, 49, 50, 5, 51, 52, 53, 54, 55, 56, 57, 58, 59, 60, 31, 32, 33, 34, 11, 12, 13, 14, 15, 16, 17, 18, 27, 28, 29, 30, 61, 62, 63, 64, 65, 66, 67, 68, 69, 70, 71, 72, 73, 74, 75, 76, 77, 78, 79, 80, 19, 20, 21, 22, 81, 82, 83, 84, 85, 86, 87, 88, 89, 90, 91, 92, 93, 94, 95, 96, 97] (by decide +kernel) (by decide +kernel)
set_option maxRecDepth 20000 in
theorem gX7_step_X7_stick : GoodIn wsX7_step (wsV RX7 129 RX7 yX7_stick wsX7_stick) := goodIn_app (goodIn_of _ (by decide +kernel)) ggX7_step_X7_stick
theorem dX7_step_0 : decode cX7_step 0 = .ok (.aload_n 0, 1) := by decide +kernel
theorem dX7_step_1 : decode cX7_step 1 = .ok (.iload_n 1, 1) := by decide +kernel
theorem dX7_step_2 : decode cX7_step 2 = .ok (.invokevirtual 126, 3) := by decide +kernel
theorem dX7_step_5 : decode cX7_step 5 = .ok (.ifCond .ne 5, 3) := by decide +kernel
theorem dX7_step_8 : decode cX7_step 8 = .ok (.iconst (-1), 1) := by decide +kernel
theorem dX7_step_9 : decode cX7_step 9 = .ok (.ireturn, 1) := by decide +kernel
theorem dX7_step_10 : decode cX7_step 10 = .ok (.iload_n 2, 1) := by decide +kernel
theorem dX7_step_11 : decode cX7_step 11 = .ok (.tableswitch 114 0 6 #[41, 60, 66, 72, 78, 84, 84], 41) := by decide +kernel
theorem dX7_step_52 : decode cX7_step 52 = .ok (.aload_n 0, 1) := by decide +kernel
theorem dX7_step_53 : decode cX7_step 53 = .ok (.iload_n 1, 1) := by decide +kernel
theorem dX7_step_54 : decode cX7_step 54 = .ok (.invokevirtual 55, 3) := by decide +kernel
theorem dX7_step_57 : decode cX7_step 57 = .ok (.ifCond .eq 11, 3) := by decide +kernel
theorem dX7_step_60 : decode cX7_step 60 = .ok (.aload_n 0, 1) := by decide +kernel
theorem dX7_step_61 : decode cX7_step 61 = .ok (.iload_n 1, 1) := by decide +kernel
theorem dX7_step_62 : decode cX7_step 62 = .ok (.invokevirtual 80, 3) := by decide +kernel
theorem dX7_step_65 : decode cX7_step 65 = .ok (.goto 5, 3) := by decide +kernel
theorem dX7_step_68 : decode cX7_step 68 = .ok (.bipush (-4), 2) := by decide +kernel
theorem dX7_step_70 : decode cX7_step 70 = .ok (.ireturn, 1) := by decide +kernel
theorem dX7_step_71 : decode cX7_step 71 = .ok (.aload_n 0, 1) := by decide +kernel
theorem dX7_step_72 : decode cX7_step 72 = .ok (.iload_n 1, 1) := by decide +kernel
theorem dX7_step_73 : decode cX7_step 73 = .ok (.invokevirtual 66, 3) := by decide +kernel
theorem dX7_step_76 : decode cX7_step 76 = .ok (.ireturn, 1) := by decide +kernel
theorem dX7_step_77 : decode cX7_step 77 = .ok (.aload_n 0, 1) := by decide +kernel
theorem dX7_step_78 : decode cX7_step 78 = .ok (.iload_n 1, 1) := by decide +kernel
theorem dX7_step_79 : decode cX7_step 79 = .ok (.invokevirtual 63, 3) := by decide +kernel
theorem dX7_step_82 : decode cX7_step 82 = .ok (.ireturn, 1) := by decide +kernel
theorem dX7_step_83 : decode cX7_step 83 = .ok (.aload_n 0, 1) := by decide +kernel
theorem dX7_step_84 : decode cX7_step 84 = .ok (.iload_n 1, 1) := by decide +kernel
theorem dX7_step_85 : decode cX7_step 85 = .ok (.invokevirtual 69, 3) := by decide +kernel
theorem dX7_step_88 : decode cX7_step 88 = .ok (.ireturn, 1) := by decide +kernel
theorem dX7_step_89 : decode cX7_step 89 = .ok (.aload_n 0, 1) := by decide +kernel
theorem dX7_step_90 : decode cX7_step 90 = .ok (.iload_n 1, 1) := by decide +kernel
theorem dX7_step_91 : decode cX7_step 91 = .ok (.invokevirtual 166, 3) := by decide +kernel
theorem dX7_step_94 : decode cX7_step 94 = .ok (.ireturn, 1) := by decide +kernel
theorem dX7_step_95 : decode cX7_step 95 = .ok (.aload_n 0, 1) := by decide +kernel
theorem dX7_step_96 : decode cX7_step 96 = .ok (.iload_n 2, 1) := by decide +kernel
theorem dX7_step_97 : decode cX7_step 97 = .ok (.bipush 6, 2) := by decide +kernel
theorem dX7_step_99 : decode cX7_step 99 = .ok (.if_icmp .ne 7, 3) := by decide +kernel
theorem dX7_step_102 : decode cX7_step 102 = .ok (.iconst 1, 1) := by decide +kernel
theorem dX7_step_103 : decode cX7_step 103 = .ok (.goto 4, 3) := by decide +kernel
theorem dX7_step_106 : decode cX7_step 106 = .ok (.iconst 0, 1) := by decide +kernel
theorem dX7_step_107 : decode cX7_step 107 = .ok (.invokevirtual 129, 3) := by decide +kernel
theorem dX7_step_110 : decode cX7_step 110 = .ok (.ifCond .eq 12, 3) := by decide +kernel
theorem dX7_step_113 : decode cX7_step 113 = .ok (.aload_n 0, 1) := by decide +kernel
theorem dX7_step_114 : decode cX7_step 114 = .ok (.getfield 29, 3) := by decide +kernel
theorem dX7_step_117 : decode cX7_step 117 = .ok (.iload_n 1, 1) := by decide +kernel
theorem dX7_step_118 : decode cX7_step 118 = .ok (.iaload, 1) := by decide +kernel
theorem dX7_step_119 : decode cX7_step 119 = .ok (.goto 5, 3) := by decide +kernel
theorem dX7_step_122 : decode cX7_step 122 = .ok (.bipush (-4), 2) := by decide +kernel
theorem dX7_step_124 : decode cX7_step 124 = .ok (.ireturn, 1) := by decide +kernel
theorem dX7_step_125 : decode cX7_step 125 = .ok (.iconst (-1), 1) := by decide +kernel
theorem dX7_step_126 : decode cX7_step 126 = .ok (.ireturn, 1) := by decide +kernel
set_option maxRecDepth 20000 in
theorem ggX7_heard_X7_in : GoodIn wsX7_heard wsX7_in := goodIn_r _ [5] (by decide +kernel) (by decide +kernel)
set_option maxRecDepth 20000 in
theorem gX7_heard_X7_in : GoodIn wsX7_heard (va_wsS RX7 47 yX7_in wsX7_in) := goodIn_app (goodIn_of _ (by decide +kernel)) ggX7_heard_X7_in
set_option maxRecDepth 20000 in
theorem ggX7_heard_X7_blows : GoodIn wsX7_heard wsX7_blows := goodIn_r _ [9, 10, 11, 12, 4, 13, 14, 15, 16, 17, 1, 18, 19, 20, 21, 34, 35, 36, 37, 38, 39, 40, 41, 42, 43, 44, 45, 46, 47, 48, 49, 50] (by decide +kernel) (by decide +kernel)
set_option maxRecDepth 20000 in
theorem gX7_heard_X7_blows : GoodIn wsX7_heard (wsV RX7 69 RX7 yX7_blows wsX7_blows) := goodIn_app (goodIn_of _ (by decide +kernel)) ggX7_heard_X7_blows
set_option maxRecDepth 20000 in
theorem ggX7_heard_X7_tick : GoodIn wsX7_heard wsX7_tick := goodIn_r _ [25, 18, 19, 20, 4, 21, 10, 11, 12, 13, 14, 15, 16, 17, 1, 34, 35, 36, 37, 38, 39, 40, 41, 42, 43, 44, 45, 46, 47, 48, 49, 50] (by decide +kernel) (by decide +kernel)
set_option maxRecDepth 20000 in
theorem gX7_heard_X7_tick : GoodIn wsX7_heard (wsV RX7 76 RX7 yX7_tick wsX7_tick) := goodIn_app (goodIn_of _ (by decide +kernel)) ggX7_heard_X7_tick
set_option maxRecDepth 20000 in
theorem ggX7_heard_X7_force : GoodIn wsX7_heard wsX7_force := goodIn_r _ [29, 30, 31, 32, 4, 33, 10, 11, 12, 13, 14, 15, 16, 17, 1, 34, 35, 36, 37, 38, 39, 40, 41, 42, 43, 44, 45, 46, 47, 48, 49, 50] (by decide +kernel) (by decide +kernel)
set_option maxRecDepth 20000 in
theorem gX7_heard_X7_force : GoodIn wsX7_heard (wsV RX7 163 RX7 yX7_force wsX7_force) := goodIn_app (goodIn_of _ (by decide +kernel)) ggX7_heard_X7_force
theorem dX7_heard_0 : decode cX7_heard 0 = .ok (.iload_n 1, 1) := by decide +kernel
theorem dX7_heard_1 : decode cX7_heard 1 = .ok (.bipush (-2), 2) := by decide +kernel
theorem dX7_heard_3 : decode cX7_heard 3 = .ok (.iconst 4, 1) := by decide +kernel
theorem dX7_heard_4 : decode cX7_heard 4 = .ok (.aload_n 0, 1) := by decide +kernel
theorem dX7_heard_5 : decode cX7_heard 5 = .ok (.getfield 7, 3) := by decide +kernel
theorem dX7_heard_8 : decode cX7_heard 8 = .ok (.iconst 0, 1) := by decide +kernel
theorem dX7_heard_9 : decode cX7_heard 9 = .ok (.iaload, 1) := by decide +kernel
theorem dX7_heard_10 : decode cX7_heard 10 = .ok (.imul, 1) := by decide +kernel
theorem dX7_heard_11 : decode cX7_heard 11 = .ok (.invokestatic 47, 3) := by decide +kernel
theorem dX7_heard_14 : decode cX7_heard 14 = .ok (.ifCond .ne 5, 3) := by decide +kernel
theorem dX7_heard_17 : decode cX7_heard 17 = .ok (.iconst (-1), 1) := by decide +kernel
theorem dX7_heard_18 : decode cX7_heard 18 = .ok (.ireturn, 1) := by decide +kernel
theorem dX7_heard_19 : decode cX7_heard 19 = .ok (.iconst 0, 1) := by decide +kernel
theorem dX7_heard_20 : decode cX7_heard 20 = .ok (.istore_n 2, 1) := by decide +kernel
theorem dX7_heard_21 : decode cX7_heard 21 = .ok (.iconst 0, 1) := by decide +kernel
theorem dX7_heard_22 : decode cX7_heard 22 = .ok (.istore_n 3, 1) := by decide +kernel
theorem dX7_heard_23 : decode cX7_heard 23 = .ok (.iload_n 3, 1) := by decide +kernel
theorem dX7_heard_24 : decode cX7_heard 24 = .ok (.iconst 3, 1) := by decide +kernel
theorem dX7_heard_25 : decode cX7_heard 25 = .ok (.aload_n 0, 1) := by decide +kernel
theorem dX7_heard_26 : decode cX7_heard 26 = .ok (.getfield 7, 3) := by decide +kernel
theorem dX7_heard_29 : decode cX7_heard 29 = .ok (.iconst 0, 1) := by decide +kernel
theorem dX7_heard_30 : decode cX7_heard 30 = .ok (.iaload, 1) := by decide +kernel
theorem dX7_heard_31 : decode cX7_heard 31 = .ok (.imul, 1) := by decide +kernel
theorem dX7_heard_32 : decode cX7_heard 32 = .ok (.if_icmp .ge 62, 3) := by decide +kernel
theorem dX7_heard_35 : decode cX7_heard 35 = .ok (.iload_n 3, 1) := by decide +kernel
theorem dX7_heard_36 : decode cX7_heard 36 = .ok (.iconst 3, 1) := by decide +kernel
theorem dX7_heard_37 : decode cX7_heard 37 = .ok (.idiv, 1) := by decide +kernel
theorem dX7_heard_38 : decode cX7_heard 38 = .ok (.istore 4, 2) := by decide +kernel
theorem dX7_heard_40 : decode cX7_heard 40 = .ok (.iload_n 3, 1) := by decide +kernel
theorem dX7_heard_41 : decode cX7_heard 41 = .ok (.iconst 3, 1) := by decide +kernel
theorem dX7_heard_42 : decode cX7_heard 42 = .ok (.irem, 1) := by decide +kernel
theorem dX7_heard_43 : decode cX7_heard 43 = .ok (.istore 5, 2) := by decide +kernel
theorem dX7_heard_45 : decode cX7_heard 45 = .ok (.iload_n 2, 1) := by decide +kernel
theorem dX7_heard_46 : decode cX7_heard 46 = .ok (.iload 5, 2) := by decide +kernel
theorem dX7_heard_48 : decode cX7_heard 48 = .ok (.aload_n 0, 1) := by decide +kernel
theorem dX7_heard_49 : decode cX7_heard 49 = .ok (.iload 4, 2) := by decide +kernel
theorem dX7_heard_51 : decode cX7_heard 51 = .ok (.invokevirtual 69, 3) := by decide +kernel
theorem dX7_heard_54 : decode cX7_heard 54 = .ok (.if_icmp .ge 31, 3) := by decide +kernel
theorem dX7_heard_57 : decode cX7_heard 57 = .ok (.iconst 4, 1) := by decide +kernel
theorem dX7_heard_58 : decode cX7_heard 58 = .ok (.iload 4, 2) := by decide +kernel
theorem dX7_heard_60 : decode cX7_heard 60 = .ok (.imul, 1) := by decide +kernel
theorem dX7_heard_61 : decode cX7_heard 61 = .ok (.aload_n 0, 1) := by decide +kernel
theorem dX7_heard_62 : decode cX7_heard 62 = .ok (.iload 4, 2) := by decide +kernel
theorem dX7_heard_64 : decode cX7_heard 64 = .ok (.iload 5, 2) := by decide +kernel
theorem dX7_heard_66 : decode cX7_heard 66 = .ok (.invokevirtual 76, 3) := by decide +kernel
theorem dX7_heard_69 : decode cX7_heard 69 = .ok (.iadd, 1) := by decide +kernel
theorem dX7_heard_70 : decode cX7_heard 70 = .ok (.iload_n 1, 1) := by decide +kernel
theorem dX7_heard_71 : decode cX7_heard 71 = .ok (.if_icmp .ne 14, 3) := by decide +kernel
theorem dX7_heard_74 : decode cX7_heard 74 = .ok (.aload_n 0, 1) := by decide +kernel
theorem dX7_heard_75 : decode cX7_heard 75 = .ok (.iload 4, 2) := by decide +kernel
theorem dX7_heard_77 : decode cX7_heard 77 = .ok (.iload 5, 2) := by decide +kernel
theorem dX7_heard_79 : decode cX7_heard 79 = .ok (.invokevirtual 163, 3) := by decide +kernel
theorem dX7_heard_82 : decode cX7_heard 82 = .ok (.goto 4, 3) := by decide +kernel
theorem dX7_heard_85 : decode cX7_heard 85 = .ok (.iconst 0, 1) := by decide +kernel
theorem dX7_heard_86 : decode cX7_heard 86 = .ok (.iadd, 1) := by decide +kernel
theorem dX7_heard_87 : decode cX7_heard 87 = .ok (.istore_n 2, 1) := by decide +kernel
theorem dX7_heard_88 : decode cX7_heard 88 = .ok (.iinc 3 1, 3) := by decide +kernel
theorem dX7_heard_91 : decode cX7_heard 91 = .ok (.goto (-68), 3) := by decide +kernel
theorem dX7_heard_94 : decode cX7_heard 94 = .ok (.iload_n 2, 1) := by decide +kernel
theorem dX7_heard_95 : decode cX7_heard 95 = .ok (.ireturn, 1) := by decide +kernel
set_option maxRecDepth 20000 in
theorem ggX7_stickings_X7_in : GoodIn wsX7_stickings wsX7_in := goodIn_r _ [4] (by decide +kernel) (by decide +kernel)
set_option maxRecDepth 20000 in
theorem gX7_stickings_X7_in : GoodIn wsX7_stickings (va_wsS RX7 47 yX7_in wsX7_in) := goodIn_app (goodIn_of _ (by decide +kernel)) ggX7_stickings_X7_in
set_option maxRecDepth 20000 in
theorem ggX7_stickings_X7_stickingsOver : GoodIn wsX7_stickings wsX7_stickingsOver := goodIn_r _ [8, 9, 10, 11, 12, 13, 3, 14, 15, 16, 17, 18, 19, 20, 21, 22, 23, 24, 25, 26, 27, 28, 29, 30, 31, 32, 33, 34, 35, 36, 37, 38, 39, 40, 41, 42, 43, 44, 45, 46, 47, 48, 49, 50, 51, 52, 53, 54, 55, 56, 57, 58, 59, 60, 61, 62, 63, 64, 65, 66, 67, 68, 69, 70, 71, 72, 73, 74, 75, 76, 77, 78, 79, 80, 81, 82, 83, 84, 85] (by decide +kernel) (by decide +kernel)
set_option maxRecDepth 20000 in
theorem gX7_stickings_X7_stickingsOver : GoodIn wsX7_stickings (wsV RX7 169 RX7 yX7_stickingsOver wsX7_stickingsOver) := goodIn_app (goodIn_of _ (by decide +kernel)) ggX7_stickings_X7_stickingsOver
set_option maxRecDepth 20000 in
theorem ggX7_stickings_X7_stickingsOnce : GoodIn wsX7_stickings wsX7_stickingsOnce := goodIn_r _ [22, 10, 23, 24, 25, 3, 26, 9, 27, 28, 29, 30, 31, 32, 33, 34, 35, 11, 12, 13, 14, 15, 16, 17, 18, 36, 37, 38, 39, 40, 41, 42, 43, 44, 45, 46, 47, 48, 49, 50, 51, 52, 53, 54, 55, 56, 57, 58, 59, 60, 61, 62, 63, 64, 65, 66, 67, 68, 69, 70, 71, 72, 73, 74, 75, 76, 77, 78, 79, 80, 81, 82, 83, 84, 85] (by decide +kernel) (by decide +kernel)
set_option maxRecDepth 20000 in
theorem gX7_stickings_X7_stickingsOnce : GoodIn wsX7_stickings (wsV RX7 113 RX7 yX7_stickingsOnce wsX7_stickingsOnce) := goodIn_app (goodIn_of _ (by decide +kernel)) ggX7_stickings_X7_stickingsOnce
theorem dX7_stickings_0 : decode cX7_stickings 0 = .ok (.iload_n 2, 1) := by decide +kernel
theorem dX7_stickings_1 : decode cX7_stickings 1 = .ok (.iconst 0, 1) := by decide +kernel
theorem dX7_stickings_2 : decode cX7_stickings 2 = .ok (.iconst 1, 1) := by decide +kernel
theorem dX7_stickings_3 : decode cX7_stickings 3 = .ok (.invokestatic 47, 3) := by decide +kernel
theorem dX7_stickings_6 : decode cX7_stickings 6 = .ok (.ifCond .ne 7, 3) := by decide +kernel
theorem dX7_stickings_9 : decode cX7_stickings 9 = .ok (.iconst (-1), 1) := by decide +kernel
theorem dX7_stickings_10 : decode cX7_stickings 10 = .ok (.goto 18, 3) := by decide +kernel
theorem dX7_stickings_13 : decode cX7_stickings 13 = .ok (.iload_n 1, 1) := by decide +kernel
theorem dX7_stickings_14 : decode cX7_stickings 14 = .ok (.ifCond .eq 10, 3) := by decide +kernel
theorem dX7_stickings_17 : decode cX7_stickings 17 = .ok (.aload_n 0, 1) := by decide +kernel
theorem dX7_stickings_18 : decode cX7_stickings 18 = .ok (.invokevirtual 169, 3) := by decide +kernel
theorem dX7_stickings_21 : decode cX7_stickings 21 = .ok (.goto 7, 3) := by decide +kernel
theorem dX7_stickings_24 : decode cX7_stickings 24 = .ok (.aload_n 0, 1) := by decide +kernel
theorem dX7_stickings_25 : decode cX7_stickings 25 = .ok (.invokevirtual 113, 3) := by decide +kernel
theorem dX7_stickings_28 : decode cX7_stickings 28 = .ok (.ireturn, 1) := by decide +kernel
set_option maxRecDepth 20000 in
theorem ggX7_ofHand_X7_isStroke : GoodIn wsX7_ofHand wsX7_isStroke := goodIn_r _ [6, 7, 8, 9, 5, 10, 1, 15, 16, 17, 18, 19, 20, 21, 22, 23, 24, 25, 26, 27, 28, 29, 30, 31] (by decide +kernel) (by decide +kernel)
set_option maxRecDepth 20000 in
theorem gX7_ofHand_X7_isStroke : GoodIn wsX7_ofHand (wsV RX7 55 RX7 yX7_isStroke wsX7_isStroke) := goodIn_app (goodIn_of _ (by decide +kernel)) ggX7_ofHand_X7_isStroke
set_option maxRecDepth 20000 in
theorem ggX7_ofHand_X7_hand : GoodIn wsX7_ofHand wsX7_hand := goodIn_r _ [14, 7, 8, 9, 5, 10, 1, 15, 16, 17, 18, 19, 20, 21, 22, 23, 24, 25, 26, 27, 28, 29, 30, 31] (by decide +kernel) (by decide +kernel)
set_option maxRecDepth 20000 in
theorem gX7_ofHand_X7_hand : GoodIn wsX7_ofHand (wsV RX7 80 RX7 yX7_hand wsX7_hand) := goodIn_app (goodIn_of _ (by decide +kernel)) ggX7_ofHand_X7_hand
theorem dX7_ofHand_0 : decode cX7_ofHand 0 = .ok (.iconst 0, 1) := by decide +kernel
theorem dX7_ofHand_1 : decode cX7_ofHand 1 = .ok (.istore_n 2, 1) := by decide +kernel
theorem dX7_ofHand_2 : decode cX7_ofHand 2 = .ok (.iconst 0, 1) := by decide +kernel
theorem dX7_ofHand_3 : decode cX7_ofHand 3 = .ok (.istore_n 3, 1) := by decide +kernel
theorem dX7_ofHand_4 : decode cX7_ofHand 4 = .ok (.iload_n 3, 1) := by decide +kernel
theorem dX7_ofHand_5 : decode cX7_ofHand 5 = .ok (.aload_n 0, 1) := by decide +kernel
theorem dX7_ofHand_6 : decode cX7_ofHand 6 = .ok (.getfield 7, 3) := by decide +kernel
theorem dX7_ofHand_9 : decode cX7_ofHand 9 = .ok (.iconst 0, 1) := by decide +kernel
theorem dX7_ofHand_10 : decode cX7_ofHand 10 = .ok (.iaload, 1) := by decide +kernel
theorem dX7_ofHand_11 : decode cX7_ofHand 11 = .ok (.if_icmp .ge 34, 3) := by decide +kernel
theorem dX7_ofHand_14 : decode cX7_ofHand 14 = .ok (.iload_n 2, 1) := by decide +kernel
theorem dX7_ofHand_15 : decode cX7_ofHand 15 = .ok (.aload_n 0, 1) := by decide +kernel
theorem dX7_ofHand_16 : decode cX7_ofHand 16 = .ok (.iload_n 3, 1) := by decide +kernel
theorem dX7_ofHand_17 : decode cX7_ofHand 17 = .ok (.invokevirtual 55, 3) := by decide +kernel
theorem dX7_ofHand_20 : decode cX7_ofHand 20 = .ok (.ifCond .eq 16, 3) := by decide +kernel
theorem dX7_ofHand_23 : decode cX7_ofHand 23 = .ok (.aload_n 0, 1) := by decide +kernel
theorem dX7_ofHand_24 : decode cX7_ofHand 24 = .ok (.iload_n 3, 1) := by decide +kernel
theorem dX7_ofHand_25 : decode cX7_ofHand 25 = .ok (.invokevirtual 80, 3) := by decide +kernel
theorem dX7_ofHand_28 : decode cX7_ofHand 28 = .ok (.iload_n 1, 1) := by decide +kernel
theorem dX7_ofHand_29 : decode cX7_ofHand 29 = .ok (.if_icmp .ne 7, 3) := by decide +kernel
theorem dX7_ofHand_32 : decode cX7_ofHand 32 = .ok (.iconst 1, 1) := by decide +kernel
theorem dX7_ofHand_33 : decode cX7_ofHand 33 = .ok (.goto 4, 3) := by decide +kernel
theorem dX7_ofHand_36 : decode cX7_ofHand 36 = .ok (.iconst 0, 1) := by decide +kernel
theorem dX7_ofHand_37 : decode cX7_ofHand 37 = .ok (.iadd, 1) := by decide +kernel
theorem dX7_ofHand_38 : decode cX7_ofHand 38 = .ok (.istore_n 2, 1) := by decide +kernel
theorem dX7_ofHand_39 : decode cX7_ofHand 39 = .ok (.iinc 3 1, 3) := by decide +kernel
theorem dX7_ofHand_42 : decode cX7_ofHand 42 = .ok (.goto (-38), 3) := by decide +kernel
theorem dX7_ofHand_45 : decode cX7_ofHand 45 = .ok (.iload_n 2, 1) := by decide +kernel
theorem dX7_ofHand_46 : decode cX7_ofHand 46 = .ok (.ireturn, 1) := by decide +kernel
set_option maxRecDepth 20000 in
theorem ggX7_clash_X7_ofHand : GoodIn wsX7_clash wsX7_ofHand := goodIn_r _ [6, 1, 7, 8, 9, 5, 10, 11, 12, 13, 14, 15, 16, 17, 18, 43, 44, 45, 46, 47, 48, 49, 50, 51, 52, 53, 54, 55, 56, 57, 58, 59] (by decide +kernel) (by decide +kernel)
set_option maxRecDepth 20000 in
theorem gX7_clash_X7_ofHand : GoodIn wsX7_clash (wsV RX7 172 RX7 yX7_ofHand wsX7_ofHand) := goodIn_app (goodIn_of _ (by decide +kernel)) ggX7_clash_X7_ofHand
set_option maxRecDepth 20000 in
theorem ggX7_clash_X7_isStroke : GoodIn wsX7_clash wsX7_isStroke := goodIn_r _ [10, 11, 12, 13, 5, 14, 1, 43, 44, 45, 46, 47, 48, 49, 50, 51, 52, 53, 54, 55, 56, 57, 58, 59] (by decide +kernel) (by decide +kernel)
set_option maxRecDepth 20000 in
theorem gX7_clash_X7_isStroke : GoodIn wsX7_clash (wsV RX7 55 RX7 yX7_isStroke wsX7_isStroke) := goodIn_app (goodIn_of _ (by decide +kernel)) ggX7_clash_X7_isStroke
set_option maxRecDepth 20000 in
theorem ggX7_clash_X7_clashes : GoodIn wsX7_clash wsX7_clashes := goodIn_r _ [22, 15, 16, 17, 5, 18, 11, 12, 13, 14, 1, 23, 24, 25, 26, 27, 28, 29, 30, 7, 8, 9, 10, 31, 32, 33, 34, 35, 36, 37, 38, 39, 40, 41, 42, 43, 44, 45, 46, 47, 48, 49, 50, 51, 52, 53, 54, 55, 56, 57, 58, 59] (by decide +kernel) (by decide +kernel)
set_option maxRecDepth 20000 in
theorem gX7_clash_X7_clashes : GoodIn wsX7_clash (wsV RX7 175 RX7 yX7_clashes wsX7_clashes) := goodIn_app (goodIn_of _ (by decide +kernel)) ggX7_clash_X7_clashes
theorem dX7_clash_0 : decode cX7_clash 0 = .ok (.aload_n 0, 1) := by decide +kernel
theorem dX7_clash_1 : decode cX7_clash 1 = .ok (.iconst 2, 1) := by decide +kernel
theorem dX7_clash_2 : decode cX7_clash 2 = .ok (.invokevirtual 172, 3) := by decide +kernel
theorem dX7_clash_5 : decode cX7_clash 5 = .ok (.ifCond .le 6, 3) := by decide +kernel
theorem dX7_clash_8 : decode cX7_clash 8 = .ok (.bipush (-2), 2) := by decide +kernel
theorem dX7_clash_10 : decode cX7_clash 10 = .ok (.ireturn, 1) := by decide +kernel
theorem dX7_clash_11 : decode cX7_clash 11 = .ok (.iconst 1, 1) := by decide +kernel
theorem dX7_clash_12 : decode cX7_clash 12 = .ok (.istore_n 1, 1) := by decide +kernel
theorem dX7_clash_13 : decode cX7_clash 13 = .ok (.iload_n 1, 1) := by decide +kernel
theorem dX7_clash_14 : decode cX7_clash 14 = .ok (.aload_n 0, 1) := by decide +kernel
theorem dX7_clash_15 : decode cX7_clash 15 = .ok (.getfield 7, 3) := by decide +kernel
theorem dX7_clash_18 : decode cX7_clash 18 = .ok (.iconst 0, 1) := by decide +kernel
theorem dX7_clash_19 : decode cX7_clash 19 = .ok (.iaload, 1) := by decide +kernel
theorem dX7_clash_20 : decode cX7_clash 20 = .ok (.if_icmp .ge 37, 3) := by decide +kernel
theorem dX7_clash_23 : decode cX7_clash 23 = .ok (.aload_n 0, 1) := by decide +kernel
theorem dX7_clash_24 : decode cX7_clash 24 = .ok (.iload_n 1, 1) := by decide +kernel
theorem dX7_clash_25 : decode cX7_clash 25 = .ok (.iconst 1, 1) := by decide +kernel
theorem dX7_clash_26 : decode cX7_clash 26 = .ok (.isub, 1) := by decide +kernel
theorem dX7_clash_27 : decode cX7_clash 27 = .ok (.invokevirtual 55, 3) := by decide +kernel
theorem dX7_clash_30 : decode cX7_clash 30 = .ok (.ifCond .eq 21, 3) := by decide +kernel
theorem dX7_clash_33 : decode cX7_clash 33 = .ok (.aload_n 0, 1) := by decide +kernel
theorem dX7_clash_34 : decode cX7_clash 34 = .ok (.iload_n 1, 1) := by decide +kernel
theorem dX7_clash_35 : decode cX7_clash 35 = .ok (.invokevirtual 55, 3) := by decide +kernel
theorem dX7_clash_38 : decode cX7_clash 38 = .ok (.ifCond .eq 13, 3) := by decide +kernel
theorem dX7_clash_41 : decode cX7_clash 41 = .ok (.aload_n 0, 1) := by decide +kernel
theorem dX7_clash_42 : decode cX7_clash 42 = .ok (.iload_n 1, 1) := by decide +kernel
theorem dX7_clash_43 : decode cX7_clash 43 = .ok (.invokevirtual 175, 3) := by decide +kernel
theorem dX7_clash_46 : decode cX7_clash 46 = .ok (.ifCond .eq 5, 3) := by decide +kernel
theorem dX7_clash_49 : decode cX7_clash 49 = .ok (.iload_n 1, 1) := by decide +kernel
theorem dX7_clash_50 : decode cX7_clash 50 = .ok (.ireturn, 1) := by decide +kernel
theorem dX7_clash_51 : decode cX7_clash 51 = .ok (.iinc 1 1, 3) := by decide +kernel
theorem dX7_clash_54 : decode cX7_clash 54 = .ok (.goto (-41), 3) := by decide +kernel
theorem dX7_clash_57 : decode cX7_clash 57 = .ok (.bipush (-4), 2) := by decide +kernel
theorem dX7_clash_59 : decode cX7_clash 59 = .ok (.ireturn, 1) := by decide +kernel
set_option maxRecDepth 20000 in
theorem ggX7_clashes_X7_hand : GoodIn wsX7_clashes wsX7_hand := goodIn_r _ [5, 6, 7, 8, 4, 9, 10, 35, 36, 37, 38, 39, 40, 41, 42, 43, 44, 45, 46, 47, 48, 49, 50, 51] (by decide +kernel) (by decide +kernel)
set_option maxRecDepth 20000 in
theorem gX7_clashes_X7_hand : GoodIn wsX7_clashes (wsV RX7 80 RX7 yX7_hand wsX7_hand) := goodIn_app (goodIn_of _ (by decide +kernel)) ggX7_clashes_X7_hand
set_option maxRecDepth 20000 in
theorem ggX7_clashes_X7_areClashing : GoodIn wsX7_clashes wsX7_areClashing := goodIn_r _ [14, 10, 15, 16, 17, 4, 18, 19, 20, 21, 22, 6, 7, 8, 9, 23, 24, 25, 26, 27, 28, 29, 30, 31, 32, 33, 34, 35, 36, 37, 38, 39, 40, 41, 42, 43, 44, 45, 46, 47, 48, 49, 50, 51] (by decide +kernel) (by decide +kernel)
set_option maxRecDepth 20000 in
theorem gX7_clashes_X7_areClashing : GoodIn wsX7_clashes (wsV RX7 87 RX7 yX7_areClashing wsX7_areClashing) := goodIn_app (goodIn_of _ (by decide +kernel)) ggX7_clashes_X7_areClashing
theorem dX7_clashes_0 : decode cX7_clashes 0 = .ok (.aload_n 0, 1) := by decide +kernel
theorem dX7_clashes_1 : decode cX7_clashes 1 = .ok (.iload_n 1, 1) := by decide +kernel
theorem dX7_clashes_2 : decode cX7_clashes 2 = .ok (.iconst 1, 1) := by decide +kernel
theorem dX7_clashes_3 : decode cX7_clashes 3 = .ok (.isub, 1) := by decide +kernel
theorem dX7_clashes_4 : decode cX7_clashes 4 = .ok (.aload_n 0, 1) := by decide +kernel
theorem dX7_clashes_5 : decode cX7_clashes 5 = .ok (.iload_n 1, 1) := by decide +kernel
theorem dX7_clashes_6 : decode cX7_clashes 6 = .ok (.iconst 1, 1) := by decide +kernel
theorem dX7_clashes_7 : decode cX7_clashes 7 = .ok (.isub, 1) := by decide +kernel
theorem dX7_clashes_8 : decode cX7_clashes 8 = .ok (.invokevirtual 80, 3) := by decide +kernel
theorem dX7_clashes_11 : decode cX7_clashes 11 = .ok (.iload_n 1, 1) := by decide +kernel
theorem dX7_clashes_12 : decode cX7_clashes 12 = .ok (.aload_n 0, 1) := by decide +kernel
theorem dX7_clashes_13 : decode cX7_clashes 13 = .ok (.iload_n 1, 1) := by decide +kernel
theorem dX7_clashes_14 : decode cX7_clashes 14 = .ok (.invokevirtual 80, 3) := by decide +kernel
theorem dX7_clashes_17 : decode cX7_clashes 17 = .ok (.invokevirtual 87, 3) := by decide +kernel
theorem dX7_clashes_20 : decode cX7_clashes 20 = .ok (.ireturn, 1) := by decide +kernel
set_option maxRecDepth 20000 in
theorem ggX7_sum_X7_accent : GoodIn wsX7_sum wsX7_accent := goodIn_r _ [6, 7, 8, 9, 5, 10, 11, 12, 13, 14, 1, 40, 41, 42, 43, 44, 45, 46, 47, 48, 49, 50, 51, 52, 53, 54, 55, 56] (by decide +kernel) (by decide +kernel)
set_option maxRecDepth 20000 in
theorem gX7_sum_X7_accent : GoodIn wsX7_sum (wsV RX7 66 RX7 yX7_accent wsX7_accent) := goodIn_app (goodIn_of _ (by decide +kernel)) ggX7_sum_X7_accent
set_option maxRecDepth 20000 in
theorem ggX7_sum_X7_blows : GoodIn wsX7_sum wsX7_blows := goodIn_r _ [18, 7, 8, 9, 5, 10, 11, 12, 13, 14, 1, 19, 20, 21, 22, 40, 41, 42, 43, 44, 45, 46, 47, 48, 49, 50, 51, 52, 53, 54, 55, 56] (by decide +kernel) (by decide +kernel)
set_option maxRecDepth 20000 in
theorem gX7_sum_X7_blows : GoodIn wsX7_sum (wsV RX7 69 RX7 yX7_blows wsX7_blows) := goodIn_app (goodIn_of _ (by decide +kernel)) ggX7_sum_X7_blows
set_option maxRecDepth 20000 in
theorem ggX7_sum_X7_forces : GoodIn wsX7_sum wsX7_forces := goodIn_r _ [26, 15, 16, 17, 5, 18, 7, 8, 9, 10, 11, 12, 13, 14, 1, 19, 20, 21, 22, 27, 28, 29, 30, 2, 3, 4, 6, 40, 41, 42, 43, 44, 45, 46, 47, 48, 49, 50, 51, 52, 53, 54, 55, 56] (by decide +kernel) (by decide +kernel)
set_option maxRecDepth 20000 in
theorem gX7_sum_X7_forces : GoodIn wsX7_sum (wsV RX7 166 RX7 yX7_forces wsX7_forces) := goodIn_app (goodIn_of _ (by decide +kernel)) ggX7_sum_X7_forces
set_option maxRecDepth 20000 in
theorem ggX7_sum_X7_write : GoodIn wsX7_sum wsX7_write := goodIn_r _ [34, 35, 7, 8, 9, 5, 10, 11, 12, 13, 14, 1, 2, 3, 4, 6, 19, 20, 21, 22, 36, 37, 38, 39, 40, 41, 42, 43, 44, 45, 46, 47, 48, 49, 50, 51, 52, 53, 54, 55, 56] (by decide +kernel) (by decide +kernel)
set_option maxRecDepth 20000 in
theorem gX7_sum_X7_write : GoodIn wsX7_sum (wsV RX7 160 RX7 yX7_write wsX7_write) := goodIn_app (goodIn_of _ (by decide +kernel)) ggX7_sum_X7_write
set_option maxRecDepth 20000 in
theorem ggX7_sum_X7_ornament : GoodIn wsX7_sum wsX7_ornament := goodIn_r _ [22, 7, 8, 9, 5, 10, 11, 12, 13, 14, 1, 40, 41, 42, 43, 44, 45, 46, 47, 48, 49, 50, 51, 52, 53, 54, 55, 56] (by decide +kernel) (by decide +kernel)
set_option maxRecDepth 20000 in
theorem gX7_sum_X7_ornament : GoodIn wsX7_sum (wsV RX7 63 RX7 yX7_ornament wsX7_ornament) := goodIn_app (goodIn_of _ (by decide +kernel)) ggX7_sum_X7_ornament
theorem dX7_sum_0 : decode cX7_sum 0 = .ok (.iconst 0, 1) := by decide +kernel
theorem dX7_sum_1 : decode cX7_sum 1 = .ok (.istore_n 2, 1) := by decide +kernel
theorem dX7_sum_2 : decode cX7_sum 2 = .ok (.iconst 0, 1) := by decide +kernel
theorem dX7_sum_3 : decode cX7_sum 3 = .ok (.istore_n 3, 1) := by decide +kernel
theorem dX7_sum_4 : decode cX7_sum 4 = .ok (.iload_n 3, 1) := by decide +kernel
theorem dX7_sum_5 : decode cX7_sum 5 = .ok (.aload_n 0, 1) := by decide +kernel
theorem dX7_sum_6 : decode cX7_sum 6 = .ok (.getfield 7, 3) := by decide +kernel
theorem dX7_sum_9 : decode cX7_sum 9 = .ok (.iconst 0, 1) := by decide +kernel
theorem dX7_sum_10 : decode cX7_sum 10 = .ok (.iaload, 1) := by decide +kernel
theorem dX7_sum_11 : decode cX7_sum 11 = .ok (.if_icmp .ge 78, 3) := by decide +kernel
theorem dX7_sum_14 : decode cX7_sum 14 = .ok (.iload_n 2, 1) := by decide +kernel
theorem dX7_sum_15 : decode cX7_sum 15 = .ok (.iload_n 1, 1) := by decide +kernel
theorem dX7_sum_16 : decode cX7_sum 16 = .ok (.ifCond .ne 11, 3) := by decide +kernel
theorem dX7_sum_19 : decode cX7_sum 19 = .ok (.aload_n 0, 1) := by decide +kernel
theorem dX7_sum_20 : decode cX7_sum 20 = .ok (.iload_n 3, 1) := by decide +kernel
theorem dX7_sum_21 : decode cX7_sum 21 = .ok (.invokevirtual 66, 3) := by decide +kernel
theorem dX7_sum_24 : decode cX7_sum 24 = .ok (.goto 57, 3) := by decide +kernel
theorem dX7_sum_27 : decode cX7_sum 27 = .ok (.iload_n 1, 1) := by decide +kernel
theorem dX7_sum_28 : decode cX7_sum 28 = .ok (.iconst 4, 1) := by decide +kernel
theorem dX7_sum_29 : decode cX7_sum 29 = .ok (.if_icmp .ne 11, 3) := by decide +kernel
theorem dX7_sum_32 : decode cX7_sum 32 = .ok (.aload_n 0, 1) := by decide +kernel
theorem dX7_sum_33 : decode cX7_sum 33 = .ok (.iload_n 3, 1) := by decide +kernel
theorem dX7_sum_34 : decode cX7_sum 34 = .ok (.invokevirtual 69, 3) := by decide +kernel
theorem dX7_sum_37 : decode cX7_sum 37 = .ok (.goto 44, 3) := by decide +kernel
theorem dX7_sum_40 : decode cX7_sum 40 = .ok (.iload_n 1, 1) := by decide +kernel
theorem dX7_sum_41 : decode cX7_sum 41 = .ok (.iconst 5, 1) := by decide +kernel
theorem dX7_sum_42 : decode cX7_sum 42 = .ok (.if_icmp .ne 11, 3) := by decide +kernel
theorem dX7_sum_45 : decode cX7_sum 45 = .ok (.aload_n 0, 1) := by decide +kernel
theorem dX7_sum_46 : decode cX7_sum 46 = .ok (.iload_n 3, 1) := by decide +kernel
theorem dX7_sum_47 : decode cX7_sum 47 = .ok (.invokevirtual 166, 3) := by decide +kernel
theorem dX7_sum_50 : decode cX7_sum 50 = .ok (.goto 31, 3) := by decide +kernel
theorem dX7_sum_53 : decode cX7_sum 53 = .ok (.iload_n 1, 1) := by decide +kernel
theorem dX7_sum_54 : decode cX7_sum 54 = .ok (.bipush 6, 2) := by decide +kernel
theorem dX7_sum_56 : decode cX7_sum 56 = .ok (.if_icmp .ne 11, 3) := by decide +kernel
theorem dX7_sum_59 : decode cX7_sum 59 = .ok (.aload_n 0, 1) := by decide +kernel
theorem dX7_sum_60 : decode cX7_sum 60 = .ok (.iload_n 3, 1) := by decide +kernel
theorem dX7_sum_61 : decode cX7_sum 61 = .ok (.invokevirtual 160, 3) := by decide +kernel
theorem dX7_sum_64 : decode cX7_sum 64 = .ok (.goto 17, 3) := by decide +kernel
theorem dX7_sum_67 : decode cX7_sum 67 = .ok (.aload_n 0, 1) := by decide +kernel
theorem dX7_sum_68 : decode cX7_sum 68 = .ok (.iload_n 3, 1) := by decide +kernel
theorem dX7_sum_69 : decode cX7_sum 69 = .ok (.invokevirtual 63, 3) := by decide +kernel
theorem dX7_sum_72 : decode cX7_sum 72 = .ok (.iload_n 1, 1) := by decide +kernel
theorem dX7_sum_73 : decode cX7_sum 73 = .ok (.if_icmp .ne 7, 3) := by decide +kernel
theorem dX7_sum_76 : decode cX7_sum 76 = .ok (.iconst 1, 1) := by decide +kernel
theorem dX7_sum_77 : decode cX7_sum 77 = .ok (.goto 4, 3) := by decide +kernel
theorem dX7_sum_80 : decode cX7_sum 80 = .ok (.iconst 0, 1) := by decide +kernel
theorem dX7_sum_81 : decode cX7_sum 81 = .ok (.iadd, 1) := by decide +kernel
theorem dX7_sum_82 : decode cX7_sum 82 = .ok (.istore_n 2, 1) := by decide +kernel
theorem dX7_sum_83 : decode cX7_sum 83 = .ok (.iinc 3 1, 3) := by decide +kernel
theorem dX7_sum_86 : decode cX7_sum 86 = .ok (.goto (-82), 3) := by decide +kernel
theorem dX7_sum_89 : decode cX7_sum 89 = .ok (.iload_n 2, 1) := by decide +kernel
theorem dX7_sum_90 : decode cX7_sum 90 = .ok (.ireturn, 1) := by decide +kernel
set_option maxRecDepth 20000 in
theorem ggX7_longest_X7_isStroke : GoodIn wsX7_longest wsX7_isStroke := goodIn_r _ [6, 7, 8, 9, 5, 10, 1, 11, 12, 13, 14, 15, 16, 17, 18, 19, 20, 21, 22, 23, 24, 25, 26, 27] (by decide +kernel) (by decide +kernel)
set_option maxRecDepth 20000 in
theorem gX7_longest_X7_isStroke : GoodIn wsX7_longest (wsV RX7 55 RX7 yX7_isStroke wsX7_isStroke) := goodIn_app (goodIn_of _ (by decide +kernel)) ggX7_longest_X7_isStroke
theorem dX7_longest_0 : decode cX7_longest 0 = .ok (.iconst 0, 1) := by decide +kernel
theorem dX7_longest_1 : decode cX7_longest 1 = .ok (.istore_n 1, 1) := by decide +kernel
theorem dX7_longest_2 : decode cX7_longest 2 = .ok (.iconst 0, 1) := by decide +kernel
theorem dX7_longest_3 : decode cX7_longest 3 = .ok (.istore_n 2, 1) := by decide +kernel
theorem dX7_longest_4 : decode cX7_longest 4 = .ok (.iconst 0, 1) := by decide +kernel
theorem dX7_longest_5 : decode cX7_longest 5 = .ok (.istore_n 3, 1) := by decide +kernel
theorem dX7_longest_6 : decode cX7_longest 6 = .ok (.iload_n 3, 1) := by decide +kernel
theorem dX7_longest_7 : decode cX7_longest 7 = .ok (.aload_n 0, 1) := by decide +kernel
theorem dX7_longest_8 : decode cX7_longest 8 = .ok (.getfield 7, 3) := by decide +kernel
theorem dX7_longest_11 : decode cX7_longest 11 = .ok (.iconst 0, 1) := by decide +kernel
theorem dX7_longest_12 : decode cX7_longest 12 = .ok (.iaload, 1) := by decide +kernel
theorem dX7_longest_13 : decode cX7_longest 13 = .ok (.if_icmp .ge 36, 3) := by decide +kernel
theorem dX7_longest_16 : decode cX7_longest 16 = .ok (.aload_n 0, 1) := by decide +kernel
theorem dX7_longest_17 : decode cX7_longest 17 = .ok (.iload_n 3, 1) := by decide +kernel
theorem dX7_longest_18 : decode cX7_longest 18 = .ok (.invokevirtual 55, 3) := by decide +kernel
theorem dX7_longest_21 : decode cX7_longest 21 = .ok (.ifCond .eq 9, 3) := by decide +kernel
theorem dX7_longest_24 : decode cX7_longest 24 = .ok (.iload_n 2, 1) := by decide +kernel
theorem dX7_longest_25 : decode cX7_longest 25 = .ok (.iconst 1, 1) := by decide +kernel
theorem dX7_longest_26 : decode cX7_longest 26 = .ok (.iadd, 1) := by decide +kernel
theorem dX7_longest_27 : decode cX7_longest 27 = .ok (.goto 4, 3) := by decide +kernel
theorem dX7_longest_30 : decode cX7_longest 30 = .ok (.iconst 0, 1) := by decide +kernel
theorem dX7_longest_31 : decode cX7_longest 31 = .ok (.istore_n 2, 1) := by decide +kernel
theorem dX7_longest_32 : decode cX7_longest 32 = .ok (.iload_n 2, 1) := by decide +kernel
theorem dX7_longest_33 : decode cX7_longest 33 = .ok (.iload_n 1, 1) := by decide +kernel
theorem dX7_longest_34 : decode cX7_longest 34 = .ok (.if_icmp .le 7, 3) := by decide +kernel
theorem dX7_longest_37 : decode cX7_longest 37 = .ok (.iload_n 2, 1) := by decide +kernel
theorem dX7_longest_38 : decode cX7_longest 38 = .ok (.goto 4, 3) := by decide +kernel
theorem dX7_longest_41 : decode cX7_longest 41 = .ok (.iload_n 1, 1) := by decide +kernel
theorem dX7_longest_42 : decode cX7_longest 42 = .ok (.istore_n 1, 1) := by decide +kernel
theorem dX7_longest_43 : decode cX7_longest 43 = .ok (.iinc 3 1, 3) := by decide +kernel
theorem dX7_longest_46 : decode cX7_longest 46 = .ok (.goto (-40), 3) := by decide +kernel
theorem dX7_longest_49 : decode cX7_longest 49 = .ok (.iload_n 1, 1) := by decide +kernel
theorem dX7_longest_50 : decode cX7_longest 50 = .ok (.ireturn, 1) := by decide +kernel
set_option maxRecDepth 20000 in
theorem ggX7_count_X7_ofHand : GoodIn wsX7_count wsX7_ofHand := goodIn_r _ [8, 1, 9, 10, 11, 7, 12, 13, 14, 15, 16, 17, 18, 19, 20, 54, 55, 56, 57, 58, 59, 60, 61, 62, 63, 64, 65, 66, 67, 68, 69, 70] (by decide +kernel) (by decide +kernel)
set_option maxRecDepth 20000 in
theorem gX7_count_X7_ofHand : GoodIn wsX7_count (wsV RX7 172 RX7 yX7_ofHand wsX7_ofHand) := goodIn_app (goodIn_of _ (by decide +kernel)) ggX7_count_X7_ofHand
set_option maxRecDepth 20000 in
theorem ggX7_count_X7_sum : GoodIn wsX7_count wsX7_sum := goodIn_r _ [24, 1, 25, 26, 27, 7, 28, 9, 10, 11, 12, 13, 14, 15, 16, 29, 30, 31, 32, 33, 34, 35, 36, 37, 38, 39, 40, 41, 42, 43, 44, 45, 46, 47, 48, 49, 17, 18, 19, 20, 54, 55, 56, 57, 58, 59, 60, 61, 62, 63, 64, 65, 66, 67, 68, 69, 70] (by decide +kernel) (by decide +kernel)
set_option maxRecDepth 20000 in
theorem gX7_count_X7_sum : GoodIn wsX7_count (wsV RX7 178 RX7 yX7_sum wsX7_sum) := goodIn_app (goodIn_of _ (by decide +kernel)) ggX7_count_X7_sum
set_option maxRecDepth 20000 in
theorem ggX7_count_X7_longest : GoodIn wsX7_count wsX7_longest := goodIn_r _ [53, 1, 9, 10, 11, 7, 12, 13, 14, 15, 16, 54, 55, 56, 57, 58, 59, 60, 61, 62, 63, 64, 65, 66, 67, 68, 69, 70] (by decide +kernel) (by decide +kernel)
set_option maxRecDepth 20000 in
theorem gX7_count_X7_longest : GoodIn wsX7_count (wsV RX7 181 RX7 yX7_longest wsX7_longest) := goodIn_app (goodIn_of _ (by decide +kernel)) ggX7_count_X7_longest
theorem dX7_count_0 : decode cX7_count 0 = .ok (.iload_n 1, 1) := by decide +kernel
theorem dX7_count_1 : decode cX7_count 1 = .ok (.tableswitch 156 0 15 #[79, 86, 111, 111, 111, 119, 119, 119, 119, 119, 119, 127, 134, 139, 146, 151], 79) := by decide +kernel
theorem dX7_count_80 : decode cX7_count 80 = .ok (.aload_n 0, 1) := by decide +kernel
theorem dX7_count_81 : decode cX7_count 81 = .ok (.getfield 7, 3) := by decide +kernel
theorem dX7_count_84 : decode cX7_count 84 = .ok (.iconst 0, 1) := by decide +kernel
theorem dX7_count_85 : decode cX7_count 85 = .ok (.iaload, 1) := by decide +kernel
theorem dX7_count_86 : decode cX7_count 86 = .ok (.ireturn, 1) := by decide +kernel
theorem dX7_count_87 : decode cX7_count 87 = .ok (.aload_n 0, 1) := by decide +kernel
theorem dX7_count_88 : decode cX7_count 88 = .ok (.getfield 7, 3) := by decide +kernel
theorem dX7_count_91 : decode cX7_count 91 = .ok (.iconst 0, 1) := by decide +kernel
theorem dX7_count_92 : decode cX7_count 92 = .ok (.iaload, 1) := by decide +kernel
theorem dX7_count_93 : decode cX7_count 93 = .ok (.aload_n 0, 1) := by decide +kernel
theorem dX7_count_94 : decode cX7_count 94 = .ok (.iconst 0, 1) := by decide +kernel
theorem dX7_count_95 : decode cX7_count 95 = .ok (.invokevirtual 172, 3) := by decide +kernel
theorem dX7_count_98 : decode cX7_count 98 = .ok (.isub, 1) := by decide +kernel
theorem dX7_count_99 : decode cX7_count 99 = .ok (.aload_n 0, 1) := by decide +kernel
theorem dX7_count_100 : decode cX7_count 100 = .ok (.iconst 1, 1) := by decide +kernel
theorem dX7_count_101 : decode cX7_count 101 = .ok (.invokevirtual 172, 3) := by decide +kernel
theorem dX7_count_104 : decode cX7_count 104 = .ok (.isub, 1) := by decide +kernel
theorem dX7_count_105 : decode cX7_count 105 = .ok (.aload_n 0, 1) := by decide +kernel
theorem dX7_count_106 : decode cX7_count 106 = .ok (.iconst 2, 1) := by decide +kernel
theorem dX7_count_107 : decode cX7_count 107 = .ok (.invokevirtual 172, 3) := by decide +kernel
theorem dX7_count_110 : decode cX7_count 110 = .ok (.isub, 1) := by decide +kernel
theorem dX7_count_111 : decode cX7_count 111 = .ok (.ireturn, 1) := by decide +kernel
theorem dX7_count_112 : decode cX7_count 112 = .ok (.aload_n 0, 1) := by decide +kernel
theorem dX7_count_113 : decode cX7_count 113 = .ok (.iload_n 1, 1) := by decide +kernel
theorem dX7_count_114 : decode cX7_count 114 = .ok (.iconst 2, 1) := by decide +kernel
theorem dX7_count_115 : decode cX7_count 115 = .ok (.isub, 1) := by decide +kernel
theorem dX7_count_116 : decode cX7_count 116 = .ok (.invokevirtual 172, 3) := by decide +kernel
theorem dX7_count_119 : decode cX7_count 119 = .ok (.ireturn, 1) := by decide +kernel
theorem dX7_count_120 : decode cX7_count 120 = .ok (.aload_n 0, 1) := by decide +kernel
theorem dX7_count_121 : decode cX7_count 121 = .ok (.iload_n 1, 1) := by decide +kernel
theorem dX7_count_122 : decode cX7_count 122 = .ok (.iconst 5, 1) := by decide +kernel
theorem dX7_count_123 : decode cX7_count 123 = .ok (.isub, 1) := by decide +kernel
theorem dX7_count_124 : decode cX7_count 124 = .ok (.invokevirtual 178, 3) := by decide +kernel
theorem dX7_count_127 : decode cX7_count 127 = .ok (.ireturn, 1) := by decide +kernel
theorem dX7_count_128 : decode cX7_count 128 = .ok (.aload_n 0, 1) := by decide +kernel
theorem dX7_count_129 : decode cX7_count 129 = .ok (.getfield 7, 3) := by decide +kernel
theorem dX7_count_132 : decode cX7_count 132 = .ok (.iconst 1, 1) := by decide +kernel
theorem dX7_count_133 : decode cX7_count 133 = .ok (.iaload, 1) := by decide +kernel
theorem dX7_count_134 : decode cX7_count 134 = .ok (.ireturn, 1) := by decide +kernel
theorem dX7_count_135 : decode cX7_count 135 = .ok (.aload_n 0, 1) := by decide +kernel
theorem dX7_count_136 : decode cX7_count 136 = .ok (.invokevirtual 181, 3) := by decide +kernel
theorem dX7_count_139 : decode cX7_count 139 = .ok (.ireturn, 1) := by decide +kernel
theorem dX7_count_140 : decode cX7_count 140 = .ok (.aload_n 0, 1) := by decide +kernel
theorem dX7_count_141 : decode cX7_count 141 = .ok (.bipush 6, 2) := by decide +kernel
theorem dX7_count_143 : decode cX7_count 143 = .ok (.invokevirtual 178, 3) := by decide +kernel
theorem dX7_count_146 : decode cX7_count 146 = .ok (.ireturn, 1) := by decide +kernel
theorem dX7_count_147 : decode cX7_count 147 = .ok (.aload_n 0, 1) := by decide +kernel
theorem dX7_count_148 : decode cX7_count 148 = .ok (.getfield 133, 3) := by decide +kernel
theorem dX7_count_151 : decode cX7_count 151 = .ok (.ireturn, 1) := by decide +kernel
theorem dX7_count_152 : decode cX7_count 152 = .ok (.aload_n 0, 1) := by decide +kernel
theorem dX7_count_153 : decode cX7_count 153 = .ok (.getfield 59, 3) := by decide +kernel
theorem dX7_count_156 : decode cX7_count 156 = .ok (.ireturn, 1) := by decide +kernel
theorem dX7_count_157 : decode cX7_count 157 = .ok (.iconst (-1), 1) := by decide +kernel
theorem dX7_count_158 : decode cX7_count 158 = .ok (.ireturn, 1) := by decide +kernel
set_option maxRecDepth 20000 in
theorem ggX7_right_X7_sum : GoodIn wsX7_right wsX7_sum := goodIn_r _ [8, 2, 9, 10, 11, 7, 12, 13, 14, 15, 16, 17, 18, 19, 20, 21, 22, 23, 24, 25, 26, 27, 28, 29, 30, 31, 32, 33, 34, 35, 36, 37, 38, 39, 40, 41, 42, 43, 44, 45, 84, 85, 86, 87, 88, 89, 90, 91, 92, 93, 94, 95, 96, 97, 98, 99, 100] (by decide +kernel) (by decide +kernel)
set_option maxRecDepth 20000 in
theorem gX7_right_X7_sum : GoodIn wsX7_right (wsV RX7 178 RX7 yX7_sum wsX7_sum) := goodIn_app (goodIn_of _ (by decide +kernel)) ggX7_right_X7_sum
set_option maxRecDepth 20000 in
theorem ggX7_right_X7_stick : GoodIn wsX7_right wsX7_stick := goodIn_r _ [49, 2, 3, 50, 51, 52, 53, 7, 54, 55, 56, 57, 58, 59, 60, 61, 62, 63, 21, 22, 23, 24, 13, 14, 15, 16, 17, 18, 19, 20, 25, 26, 27, 28, 64, 65, 66, 67, 68, 69, 70, 71, 72, 73, 74, 75, 76, 77, 78, 79, 80, 81, 82, 83, 42, 43, 44, 45, 84, 85, 86, 87, 88, 89, 90, 91, 92, 93, 94, 95, 96, 97, 98, 99, 100] (by decide +kernel) (by decide +kernel)
set_option maxRecDepth 20000 in
theorem gX7_right_X7_stick : GoodIn wsX7_right (wsV RX7 129 RX7 yX7_stick wsX7_stick) := goodIn_app (goodIn_of _ (by decide +kernel)) ggX7_right_X7_stick
set_option maxRecDepth 20000 in
theorem ggX7_right_X7_blows : GoodIn wsX7_right wsX7_blows := goodIn_r _ [24, 13, 14, 15, 7, 16, 17, 18, 19, 20, 2, 25, 26, 27, 28, 84, 85, 86, 87, 88, 89, 90, 91, 92, 93, 94, 95, 96, 97, 98, 99, 100] (by decide +kernel) (by decide +kernel)
set_option maxRecDepth 20000 in
theorem gX7_right_X7_blows : GoodIn wsX7_right (wsV RX7 69 RX7 yX7_blows wsX7_blows) := goodIn_app (goodIn_of _ (by decide +kernel)) ggX7_right_X7_blows
set_option maxRecDepth 20000 in
theorem ggX7_right_X7_handOf : GoodIn wsX7_right wsX7_handOf := goodIn_r _ [67, 25, 26, 27, 7, 28, 13, 14, 15, 16, 17, 18, 19, 20, 2, 84, 85, 86, 87, 88, 89, 90, 91, 92, 93, 94, 95, 96, 97, 98, 99, 100] (by decide +kernel) (by decide +kernel)
set_option maxRecDepth 20000 in
theorem gX7_right_X7_handOf : GoodIn wsX7_right (wsV RX7 72 RX7 yX7_handOf wsX7_handOf) := goodIn_app (goodIn_of _ (by decide +kernel)) ggX7_right_X7_handOf
set_option maxRecDepth 20000 in
theorem ggX7_right_X7_force : GoodIn wsX7_right wsX7_force := goodIn_r _ [36, 9, 10, 11, 7, 12, 13, 14, 15, 16, 17, 18, 19, 20, 2, 84, 85, 86, 87, 88, 89, 90, 91, 92, 93, 94, 95, 96, 97, 98, 99, 100] (by decide +kernel) (by decide +kernel)
set_option maxRecDepth 20000 in
theorem gX7_right_X7_force : GoodIn wsX7_right (wsV RX7 163 RX7 yX7_force wsX7_force) := goodIn_app (goodIn_of _ (by decide +kernel)) ggX7_right_X7_force
theorem dX7_right_0 : decode cX7_right 0 = .ok (.aload_n 0, 1) := by decide +kernel
theorem dX7_right_1 : decode cX7_right 1 = .ok (.iconst 5, 1) := by decide +kernel
theorem dX7_right_2 : decode cX7_right 2 = .ok (.invokevirtual 178, 3) := by decide +kernel
theorem dX7_right_5 : decode cX7_right 5 = .ok (.istore_n 2, 1) := by decide +kernel
theorem dX7_right_6 : decode cX7_right 6 = .ok (.iload_n 2, 1) := by decide +kernel
theorem dX7_right_7 : decode cX7_right 7 = .ok (.ifCond .eq 11, 3) := by decide +kernel
theorem dX7_right_10 : decode cX7_right 10 = .ok (.aload_n 0, 1) := by decide +kernel
theorem dX7_right_11 : decode cX7_right 11 = .ok (.iload_n 1, 1) := by decide +kernel
theorem dX7_right_12 : decode cX7_right 12 = .ok (.invokevirtual 129, 3) := by decide +kernel
theorem dX7_right_15 : decode cX7_right 15 = .ok (.ifCond .ne 7, 3) := by decide +kernel
theorem dX7_right_18 : decode cX7_right 18 = .ok (.ldc2_w 184, 3) := by decide +kernel
theorem dX7_right_21 : decode cX7_right 21 = .ok (.dreturn, 1) := by decide +kernel
theorem dX7_right_22 : decode cX7_right 22 = .ok (.iconst 0, 1) := by decide +kernel
theorem dX7_right_23 : decode cX7_right 23 = .ok (.istore_n 3, 1) := by decide +kernel
theorem dX7_right_24 : decode cX7_right 24 = .ok (.iconst 0, 1) := by decide +kernel
theorem dX7_right_25 : decode cX7_right 25 = .ok (.istore 4, 2) := by decide +kernel
theorem dX7_right_27 : decode cX7_right 27 = .ok (.iload 4, 2) := by decide +kernel
theorem dX7_right_29 : decode cX7_right 29 = .ok (.iconst 3, 1) := by decide +kernel
theorem dX7_right_30 : decode cX7_right 30 = .ok (.aload_n 0, 1) := by decide +kernel
theorem dX7_right_31 : decode cX7_right 31 = .ok (.getfield 7, 3) := by decide +kernel
theorem dX7_right_34 : decode cX7_right 34 = .ok (.iconst 0, 1) := by decide +kernel
theorem dX7_right_35 : decode cX7_right 35 = .ok (.iaload, 1) := by decide +kernel
theorem dX7_right_36 : decode cX7_right 36 = .ok (.imul, 1) := by decide +kernel
theorem dX7_right_37 : decode cX7_right 37 = .ok (.if_icmp .ge 65, 3) := by decide +kernel
theorem dX7_right_40 : decode cX7_right 40 = .ok (.iload 4, 2) := by decide +kernel
theorem dX7_right_42 : decode cX7_right 42 = .ok (.iconst 3, 1) := by decide +kernel
theorem dX7_right_43 : decode cX7_right 43 = .ok (.idiv, 1) := by decide +kernel
theorem dX7_right_44 : decode cX7_right 44 = .ok (.istore 5, 2) := by decide +kernel
theorem dX7_right_46 : decode cX7_right 46 = .ok (.iload 4, 2) := by decide +kernel
theorem dX7_right_48 : decode cX7_right 48 = .ok (.iconst 3, 1) := by decide +kernel
theorem dX7_right_49 : decode cX7_right 49 = .ok (.irem, 1) := by decide +kernel
theorem dX7_right_50 : decode cX7_right 50 = .ok (.istore 6, 2) := by decide +kernel
theorem dX7_right_52 : decode cX7_right 52 = .ok (.iload_n 3, 1) := by decide +kernel
theorem dX7_right_53 : decode cX7_right 53 = .ok (.iload 6, 2) := by decide +kernel
theorem dX7_right_55 : decode cX7_right 55 = .ok (.aload_n 0, 1) := by decide +kernel
theorem dX7_right_56 : decode cX7_right 56 = .ok (.iload 5, 2) := by decide +kernel
theorem dX7_right_58 : decode cX7_right 58 = .ok (.invokevirtual 69, 3) := by decide +kernel
theorem dX7_right_61 : decode cX7_right 61 = .ok (.if_icmp .ge 32, 3) := by decide +kernel
theorem dX7_right_64 : decode cX7_right 64 = .ok (.aload_n 0, 1) := by decide +kernel
theorem dX7_right_65 : decode cX7_right 65 = .ok (.iload 5, 2) := by decide +kernel
theorem dX7_right_67 : decode cX7_right 67 = .ok (.iload 6, 2) := by decide +kernel
theorem dX7_right_69 : decode cX7_right 69 = .ok (.aload_n 0, 1) := by decide +kernel
theorem dX7_right_70 : decode cX7_right 70 = .ok (.getfield 29, 3) := by decide +kernel
theorem dX7_right_73 : decode cX7_right 73 = .ok (.iload 5, 2) := by decide +kernel
theorem dX7_right_75 : decode cX7_right 75 = .ok (.iaload, 1) := by decide +kernel
theorem dX7_right_76 : decode cX7_right 76 = .ok (.invokevirtual 72, 3) := by decide +kernel
theorem dX7_right_79 : decode cX7_right 79 = .ok (.ifCond .ne 14, 3) := by decide +kernel
theorem dX7_right_82 : decode cX7_right 82 = .ok (.aload_n 0, 1) := by decide +kernel
theorem dX7_right_83 : decode cX7_right 83 = .ok (.iload 5, 2) := by decide +kernel
theorem dX7_right_85 : decode cX7_right 85 = .ok (.iload 6, 2) := by decide +kernel
theorem dX7_right_87 : decode cX7_right 87 = .ok (.invokevirtual 163, 3) := by decide +kernel
theorem dX7_right_90 : decode cX7_right 90 = .ok (.goto 4, 3) := by decide +kernel
theorem dX7_right_93 : decode cX7_right 93 = .ok (.iconst 0, 1) := by decide +kernel
theorem dX7_right_94 : decode cX7_right 94 = .ok (.iadd, 1) := by decide +kernel
theorem dX7_right_95 : decode cX7_right 95 = .ok (.istore_n 3, 1) := by decide +kernel
theorem dX7_right_96 : decode cX7_right 96 = .ok (.iinc 4 1, 3) := by decide +kernel
theorem dX7_right_99 : decode cX7_right 99 = .ok (.goto (-72), 3) := by decide +kernel
theorem dX7_right_102 : decode cX7_right 102 = .ok (.iload_n 3, 1) := by decide +kernel
theorem dX7_right_103 : decode cX7_right 103 = .ok (.i2d, 1) := by decide +kernel
theorem dX7_right_104 : decode cX7_right 104 = .ok (.iload_n 2, 1) := by decide +kernel
theorem dX7_right_105 : decode cX7_right 105 = .ok (.i2d, 1) := by decide +kernel
theorem dX7_right_106 : decode cX7_right 106 = .ok (.ddiv, 1) := by decide +kernel
theorem dX7_right_107 : decode cX7_right 107 = .ok (.dreturn, 1) := by decide +kernel
set_option maxRecDepth 20000 in
theorem ggX7_comes_X7_handFor : GoodIn wsX7_comes wsX7_handFor := goodIn_r _ [8] (by decide +kernel) (by decide +kernel)
set_option maxRecDepth 20000 in
theorem gX7_comes_X7_handFor : GoodIn wsX7_comes (va_wsS RX7 148 yX7_handFor wsX7_handFor) := goodIn_app (goodIn_of _ (by decide +kernel)) ggX7_comes_X7_handFor
set_option maxRecDepth 20000 in
theorem ggX7_comes_X7_isStroke : GoodIn wsX7_comes wsX7_isStroke := goodIn_r _ [12, 13, 14, 15, 7, 16, 2, 17, 18, 19, 20, 21, 22, 23, 24, 25, 26, 27, 28, 29, 30, 31, 32, 33] (by decide +kernel) (by decide +kernel)
set_option maxRecDepth 20000 in
theorem gX7_comes_X7_isStroke : GoodIn wsX7_comes (wsV RX7 55 RX7 yX7_isStroke wsX7_isStroke) := goodIn_app (goodIn_of _ (by decide +kernel)) ggX7_comes_X7_isStroke
theorem dX7_comes_0 : decode cX7_comes 0 = .ok (.iload_n 1, 1) := by decide +kernel
theorem dX7_comes_1 : decode cX7_comes 1 = .ok (.aload_n 0, 1) := by decide +kernel
theorem dX7_comes_2 : decode cX7_comes 2 = .ok (.getfield 133, 3) := by decide +kernel
theorem dX7_comes_5 : decode cX7_comes 5 = .ok (.iadd, 1) := by decide +kernel
theorem dX7_comes_6 : decode cX7_comes 6 = .ok (.aload_n 0, 1) := by decide +kernel
theorem dX7_comes_7 : decode cX7_comes 7 = .ok (.getfield 7, 3) := by decide +kernel
theorem dX7_comes_10 : decode cX7_comes 10 = .ok (.iconst 0, 1) := by decide +kernel
theorem dX7_comes_11 : decode cX7_comes 11 = .ok (.iaload, 1) := by decide +kernel
theorem dX7_comes_12 : decode cX7_comes 12 = .ok (.if_icmp .gt 7, 3) := by decide +kernel
theorem dX7_comes_15 : decode cX7_comes 15 = .ok (.iconst 1, 1) := by decide +kernel
theorem dX7_comes_16 : decode cX7_comes 16 = .ok (.goto 4, 3) := by decide +kernel
theorem dX7_comes_19 : decode cX7_comes 19 = .ok (.iconst 0, 1) := by decide +kernel
theorem dX7_comes_20 : decode cX7_comes 20 = .ok (.istore_n 2, 1) := by decide +kernel
theorem dX7_comes_21 : decode cX7_comes 21 = .ok (.iconst 0, 1) := by decide +kernel
theorem dX7_comes_22 : decode cX7_comes 22 = .ok (.istore_n 3, 1) := by decide +kernel
theorem dX7_comes_23 : decode cX7_comes 23 = .ok (.iload_n 3, 1) := by decide +kernel
theorem dX7_comes_24 : decode cX7_comes 24 = .ok (.aload_n 0, 1) := by decide +kernel
theorem dX7_comes_25 : decode cX7_comes 25 = .ok (.getfield 133, 3) := by decide +kernel
theorem dX7_comes_28 : decode cX7_comes 28 = .ok (.if_icmp .ge 84, 3) := by decide +kernel
theorem dX7_comes_31 : decode cX7_comes 31 = .ok (.iload_n 2, 1) := by decide +kernel
theorem dX7_comes_32 : decode cX7_comes 32 = .ok (.ifCond .eq 80, 3) := by decide +kernel
theorem dX7_comes_35 : decode cX7_comes 35 = .ok (.aload_n 0, 1) := by decide +kernel
theorem dX7_comes_36 : decode cX7_comes 36 = .ok (.getfield 19, 3) := by decide +kernel
theorem dX7_comes_39 : decode cX7_comes 39 = .ok (.iload_n 3, 1) := by decide +kernel
theorem dX7_comes_40 : decode cX7_comes 40 = .ok (.iaload, 1) := by decide +kernel
theorem dX7_comes_41 : decode cX7_comes 41 = .ok (.invokestatic 148, 3) := by decide +kernel
theorem dX7_comes_44 : decode cX7_comes 44 = .ok (.istore 4, 2) := by decide +kernel
theorem dX7_comes_46 : decode cX7_comes 46 = .ok (.iload 4, 2) := by decide +kernel
theorem dX7_comes_48 : decode cX7_comes 48 = .ok (.bipush (-4), 2) := by decide +kernel
theorem dX7_comes_50 : decode cX7_comes 50 = .ok (.if_icmp .ne 21, 3) := by decide +kernel
theorem dX7_comes_53 : decode cX7_comes 53 = .ok (.aload_n 0, 1) := by decide +kernel
theorem dX7_comes_54 : decode cX7_comes 54 = .ok (.iload_n 1, 1) := by decide +kernel
theorem dX7_comes_55 : decode cX7_comes 55 = .ok (.iload_n 3, 1) := by decide +kernel
theorem dX7_comes_56 : decode cX7_comes 56 = .ok (.iadd, 1) := by decide +kernel
theorem dX7_comes_57 : decode cX7_comes 57 = .ok (.invokevirtual 55, 3) := by decide +kernel
theorem dX7_comes_60 : decode cX7_comes 60 = .ok (.ifCond .ne 7, 3) := by decide +kernel
theorem dX7_comes_63 : decode cX7_comes 63 = .ok (.iconst 1, 1) := by decide +kernel
theorem dX7_comes_64 : decode cX7_comes 64 = .ok (.goto 41, 3) := by decide +kernel
theorem dX7_comes_67 : decode cX7_comes 67 = .ok (.iconst 0, 1) := by decide +kernel
theorem dX7_comes_68 : decode cX7_comes 68 = .ok (.goto 37, 3) := by decide +kernel
theorem dX7_comes_71 : decode cX7_comes 71 = .ok (.aload_n 0, 1) := by decide +kernel
theorem dX7_comes_72 : decode cX7_comes 72 = .ok (.iload_n 1, 1) := by decide +kernel
theorem dX7_comes_73 : decode cX7_comes 73 = .ok (.iload_n 3, 1) := by decide +kernel
theorem dX7_comes_74 : decode cX7_comes 74 = .ok (.iadd, 1) := by decide +kernel
theorem dX7_comes_75 : decode cX7_comes 75 = .ok (.invokevirtual 55, 3) := by decide +kernel
theorem dX7_comes_78 : decode cX7_comes 78 = .ok (.ifCond .eq 26, 3) := by decide +kernel
theorem dX7_comes_81 : decode cX7_comes 81 = .ok (.iload 4, 2) := by decide +kernel
theorem dX7_comes_83 : decode cX7_comes 83 = .ok (.iconst 2, 1) := by decide +kernel
theorem dX7_comes_84 : decode cX7_comes 84 = .ok (.if_icmp .eq 16, 3) := by decide +kernel
theorem dX7_comes_87 : decode cX7_comes 87 = .ok (.iload 4, 2) := by decide +kernel
theorem dX7_comes_89 : decode cX7_comes 89 = .ok (.aload_n 0, 1) := by decide +kernel
theorem dX7_comes_90 : decode cX7_comes 90 = .ok (.getfield 29, 3) := by decide +kernel
theorem dX7_comes_93 : decode cX7_comes 93 = .ok (.iload_n 1, 1) := by decide +kernel
theorem dX7_comes_94 : decode cX7_comes 94 = .ok (.iload_n 3, 1) := by decide +kernel
theorem dX7_comes_95 : decode cX7_comes 95 = .ok (.iadd, 1) := by decide +kernel
theorem dX7_comes_96 : decode cX7_comes 96 = .ok (.iaload, 1) := by decide +kernel
theorem dX7_comes_97 : decode cX7_comes 97 = .ok (.if_icmp .ne 7, 3) := by decide +kernel
