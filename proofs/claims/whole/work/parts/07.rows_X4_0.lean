theorem dX4_init_0 : decode cX4_init 0 = .ok (.aload_n 0, 1) := by decide +kernel
theorem dX4_init_1 : decode cX4_init 1 = .ok (.invokespecial 3, 3) := by decide +kernel
theorem dX4_init_4 : decode cX4_init 4 = .ok (.aload_n 0, 1) := by decide +kernel
theorem dX4_init_5 : decode cX4_init 5 = .ok (.bipush 60, 2) := by decide +kernel
theorem dX4_init_7 : decode cX4_init 7 = .ok (.newarray .int, 2) := by decide +kernel
theorem dX4_init_9 : decode cX4_init 9 = .ok (.putfield 9, 3) := by decide +kernel
theorem dX4_init_12 : decode cX4_init 12 = .ok (.aload_n 0, 1) := by decide +kernel
theorem dX4_init_13 : decode cX4_init 13 = .ok (.bipush 60, 2) := by decide +kernel
theorem dX4_init_15 : decode cX4_init 15 = .ok (.newarray .int, 2) := by decide +kernel
theorem dX4_init_17 : decode cX4_init 17 = .ok (.putfield 15, 3) := by decide +kernel
theorem dX4_init_20 : decode cX4_init 20 = .ok (.return_, 1) := by decide +kernel
theorem dX4_isHandSign_0 : decode cX4_isHandSign 0 = .ok (.iload_n 0, 1) := by decide +kernel
theorem dX4_isHandSign_1 : decode cX4_isHandSign 1 = .ok (.bipush 82, 2) := by decide +kernel
theorem dX4_isHandSign_3 : decode cX4_isHandSign 3 = .ok (.if_icmp .eq 15, 3) := by decide +kernel
theorem dX4_isHandSign_6 : decode cX4_isHandSign 6 = .ok (.iload_n 0, 1) := by decide +kernel
theorem dX4_isHandSign_7 : decode cX4_isHandSign 7 = .ok (.bipush 76, 2) := by decide +kernel
theorem dX4_isHandSign_9 : decode cX4_isHandSign 9 = .ok (.if_icmp .eq 9, 3) := by decide +kernel
theorem dX4_isHandSign_12 : decode cX4_isHandSign 12 = .ok (.iload_n 0, 1) := by decide +kernel
theorem dX4_isHandSign_13 : decode cX4_isHandSign 13 = .ok (.bipush 120, 2) := by decide +kernel
theorem dX4_isHandSign_15 : decode cX4_isHandSign 15 = .ok (.if_icmp .ne 7, 3) := by decide +kernel
theorem dX4_isHandSign_18 : decode cX4_isHandSign 18 = .ok (.iconst 1, 1) := by decide +kernel
theorem dX4_isHandSign_19 : decode cX4_isHandSign 19 = .ok (.goto 4, 3) := by decide +kernel
theorem dX4_isHandSign_22 : decode cX4_isHandSign 22 = .ok (.iconst 0, 1) := by decide +kernel
theorem dX4_isHandSign_23 : decode cX4_isHandSign 23 = .ok (.ireturn, 1) := by decide +kernel
set_option maxRecDepth 20000 in
theorem ggX4_pieceFault_X1_at : GoodIn wsX4_pieceFault wsX1_at := goodIn_r _ [5, 6, 7, 27, 28] (by decide +kernel) (by decide +kernel)
set_option maxRecDepth 20000 in
theorem gX4_pieceFault_X1_at : GoodIn wsX4_pieceFault (wsV RX4 24 RX1 yX1_at wsX1_at) := goodIn_app (goodIn_of _ (by decide +kernel)) ggX4_pieceFault_X1_at
set_option maxRecDepth 20000 in
theorem ggX4_pieceFault_X4_stateBehind : GoodIn wsX4_pieceFault wsX4_stateBehind := goodIn_r _ [11, 12, 13, 10, 14, 15, 16, 17, 18, 19, 20, 21, 22, 23, 24, 25, 26] (by decide +kernel) (by decide +kernel)
set_option maxRecDepth 20000 in
theorem gX4_pieceFault_X4_stateBehind : GoodIn wsX4_pieceFault (va_wsS RX4 28 yX4_stateBehind wsX4_stateBehind) := goodIn_app (goodIn_of _ (by decide +kernel)) ggX4_pieceFault_X4_stateBehind
theorem dX4_pieceFault_0 : decode cX4_pieceFault 0 = .ok (.iconst 0, 1) := by decide +kernel
theorem dX4_pieceFault_1 : decode cX4_pieceFault 1 = .ok (.istore_n 2, 1) := by decide +kernel
theorem dX4_pieceFault_2 : decode cX4_pieceFault 2 = .ok (.iconst 0, 1) := by decide +kernel
theorem dX4_pieceFault_3 : decode cX4_pieceFault 3 = .ok (.istore_n 3, 1) := by decide +kernel
theorem dX4_pieceFault_4 : decode cX4_pieceFault 4 = .ok (.iconst 0, 1) := by decide +kernel
theorem dX4_pieceFault_5 : decode cX4_pieceFault 5 = .ok (.istore 4, 2) := by decide +kernel
theorem dX4_pieceFault_7 : decode cX4_pieceFault 7 = .ok (.iload 4, 2) := by decide +kernel
theorem dX4_pieceFault_9 : decode cX4_pieceFault 9 = .ok (.aload_n 1, 1) := by decide +kernel
theorem dX4_pieceFault_10 : decode cX4_pieceFault 10 = .ok (.getfield 18, 3) := by decide +kernel
theorem dX4_pieceFault_13 : decode cX4_pieceFault 13 = .ok (.if_icmp .ge 56, 3) := by decide +kernel
theorem dX4_pieceFault_16 : decode cX4_pieceFault 16 = .ok (.aload_n 1, 1) := by decide +kernel
theorem dX4_pieceFault_17 : decode cX4_pieceFault 17 = .ok (.iload 4, 2) := by decide +kernel
theorem dX4_pieceFault_19 : decode cX4_pieceFault 19 = .ok (.invokevirtual 24, 3) := by decide +kernel
theorem dX4_pieceFault_22 : decode cX4_pieceFault 22 = .ok (.istore 5, 2) := by decide +kernel
theorem dX4_pieceFault_24 : decode cX4_pieceFault 24 = .ok (.iload_n 2, 1) := by decide +kernel
theorem dX4_pieceFault_25 : decode cX4_pieceFault 25 = .ok (.iload 5, 2) := by decide +kernel
theorem dX4_pieceFault_27 : decode cX4_pieceFault 27 = .ok (.iload_n 3, 1) := by decide +kernel
theorem dX4_pieceFault_28 : decode cX4_pieceFault 28 = .ok (.invokestatic 28, 3) := by decide +kernel
theorem dX4_pieceFault_31 : decode cX4_pieceFault 31 = .ok (.istore_n 2, 1) := by decide +kernel
theorem dX4_pieceFault_32 : decode cX4_pieceFault 32 = .ok (.iload_n 2, 1) := by decide +kernel
theorem dX4_pieceFault_33 : decode cX4_pieceFault 33 = .ok (.iconst (-1), 1) := by decide +kernel
theorem dX4_pieceFault_34 : decode cX4_pieceFault 34 = .ok (.if_icmp .ne 6, 3) := by decide +kernel
theorem dX4_pieceFault_37 : decode cX4_pieceFault 37 = .ok (.iload 4, 2) := by decide +kernel
theorem dX4_pieceFault_39 : decode cX4_pieceFault 39 = .ok (.ireturn, 1) := by decide +kernel
theorem dX4_pieceFault_40 : decode cX4_pieceFault 40 = .ok (.iload 5, 2) := by decide +kernel
theorem dX4_pieceFault_42 : decode cX4_pieceFault 42 = .ok (.bipush 40, 2) := by decide +kernel
theorem dX4_pieceFault_44 : decode cX4_pieceFault 44 = .ok (.if_icmp .ne 9, 3) := by decide +kernel
theorem dX4_pieceFault_47 : decode cX4_pieceFault 47 = .ok (.iinc 3 1, 3) := by decide +kernel
theorem dX4_pieceFault_50 : decode cX4_pieceFault 50 = .ok (.goto 13, 3) := by decide +kernel
theorem dX4_pieceFault_53 : decode cX4_pieceFault 53 = .ok (.iload 5, 2) := by decide +kernel
theorem dX4_pieceFault_55 : decode cX4_pieceFault 55 = .ok (.bipush 41, 2) := by decide +kernel
theorem dX4_pieceFault_57 : decode cX4_pieceFault 57 = .ok (.if_icmp .ne 6, 3) := by decide +kernel
theorem dX4_pieceFault_60 : decode cX4_pieceFault 60 = .ok (.iinc 3 (-1), 3) := by decide +kernel
theorem dX4_pieceFault_63 : decode cX4_pieceFault 63 = .ok (.iinc 4 1, 3) := by decide +kernel
theorem dX4_pieceFault_66 : decode cX4_pieceFault 66 = .ok (.goto (-59), 3) := by decide +kernel
theorem dX4_pieceFault_69 : decode cX4_pieceFault 69 = .ok (.iload_n 3, 1) := by decide +kernel
theorem dX4_pieceFault_70 : decode cX4_pieceFault 70 = .ok (.ifCond .ne 17, 3) := by decide +kernel
theorem dX4_pieceFault_73 : decode cX4_pieceFault 73 = .ok (.iload_n 2, 1) := by decide +kernel
theorem dX4_pieceFault_74 : decode cX4_pieceFault 74 = .ok (.iconst 1, 1) := by decide +kernel
theorem dX4_pieceFault_75 : decode cX4_pieceFault 75 = .ok (.if_icmp .eq 8, 3) := by decide +kernel
theorem dX4_pieceFault_78 : decode cX4_pieceFault 78 = .ok (.iload_n 2, 1) := by decide +kernel
theorem dX4_pieceFault_79 : decode cX4_pieceFault 79 = .ok (.iconst 2, 1) := by decide +kernel
theorem dX4_pieceFault_80 : decode cX4_pieceFault 80 = .ok (.if_icmp .ne 7, 3) := by decide +kernel
theorem dX4_pieceFault_83 : decode cX4_pieceFault 83 = .ok (.iconst 1, 1) := by decide +kernel
theorem dX4_pieceFault_84 : decode cX4_pieceFault 84 = .ok (.goto 4, 3) := by decide +kernel
theorem dX4_pieceFault_87 : decode cX4_pieceFault 87 = .ok (.iconst 0, 1) := by decide +kernel
theorem dX4_pieceFault_88 : decode cX4_pieceFault 88 = .ok (.istore 4, 2) := by decide +kernel
theorem dX4_pieceFault_90 : decode cX4_pieceFault 90 = .ok (.iload 4, 2) := by decide +kernel
theorem dX4_pieceFault_92 : decode cX4_pieceFault 92 = .ok (.ifCond .eq 8, 3) := by decide +kernel
theorem dX4_pieceFault_95 : decode cX4_pieceFault 95 = .ok (.bipush (-4), 2) := by decide +kernel
theorem dX4_pieceFault_97 : decode cX4_pieceFault 97 = .ok (.goto 7, 3) := by decide +kernel
theorem dX4_pieceFault_100 : decode cX4_pieceFault 100 = .ok (.aload_n 1, 1) := by decide +kernel
theorem dX4_pieceFault_101 : decode cX4_pieceFault 101 = .ok (.getfield 18, 3) := by decide +kernel
theorem dX4_pieceFault_104 : decode cX4_pieceFault 104 = .ok (.ireturn, 1) := by decide +kernel
set_option maxRecDepth 20000 in
theorem ggX4_stateBehind_X4_isHandSign : GoodIn wsX4_stateBehind wsX4_isHandSign := goodIn_r _ [4] (by decide +kernel) (by decide +kernel)
set_option maxRecDepth 20000 in
theorem gX4_stateBehind_X4_isHandSign : GoodIn wsX4_stateBehind (va_wsS RX4 32 yX4_isHandSign wsX4_isHandSign) := goodIn_app (goodIn_of _ (by decide +kernel)) ggX4_stateBehind_X4_isHandSign
set_option maxRecDepth 20000 in
theorem ggX4_stateBehind_X4_stateInStroke : GoodIn wsX4_stateBehind wsX4_stateInStroke := goodIn_r _ [7, 1, 2, 3, 4] (by decide +kernel) (by decide +kernel)
set_option maxRecDepth 20000 in
theorem gX4_stateBehind_X4_stateInStroke : GoodIn wsX4_stateBehind (va_wsS RX4 36 yX4_stateInStroke wsX4_stateInStroke) := goodIn_app (goodIn_of _ (by decide +kernel)) ggX4_stateBehind_X4_stateInStroke
set_option maxRecDepth 20000 in
theorem ggX4_stateBehind_X4_stateBehindItem : GoodIn wsX4_stateBehind wsX4_stateBehindItem := goodIn_r _ [10, 11, 12, 3, 13, 14, 15, 16, 5, 6, 7, 1, 2, 4] (by decide +kernel) (by decide +kernel)
set_option maxRecDepth 20000 in
theorem gX4_stateBehind_X4_stateBehindItem : GoodIn wsX4_stateBehind (va_wsS RX4 39 yX4_stateBehindItem wsX4_stateBehindItem) := goodIn_app (goodIn_of _ (by decide +kernel)) ggX4_stateBehind_X4_stateBehindItem
set_option maxRecDepth 20000 in
theorem ggX4_stateBehind_X4_stateInItem : GoodIn wsX4_stateBehind wsX4_stateInItem := goodIn_r _ [13, 14, 15, 3, 16, 5, 6, 7, 1, 2, 4] (by decide +kernel) (by decide +kernel)
set_option maxRecDepth 20000 in
theorem gX4_stateBehind_X4_stateInItem : GoodIn wsX4_stateBehind (va_wsS RX4 43 yX4_stateInItem wsX4_stateInItem) := goodIn_app (goodIn_of _ (by decide +kernel)) ggX4_stateBehind_X4_stateInItem
theorem dX4_stateBehind_0 : decode cX4_stateBehind 0 = .ok (.iload_n 0, 1) := by decide +kernel
theorem dX4_stateBehind_1 : decode cX4_stateBehind 1 = .ok (.tableswitch 87 1 5 #[81, 65, 60, 47, 35], 35) := by decide +kernel
theorem dX4_stateBehind_36 : decode cX4_stateBehind 36 = .ok (.iload_n 1, 1) := by decide +kernel
theorem dX4_stateBehind_37 : decode cX4_stateBehind 37 = .ok (.bipush 40, 2) := by decide +kernel
theorem dX4_stateBehind_39 : decode cX4_stateBehind 39 = .ok (.if_icmp .ne 7, 3) := by decide +kernel
theorem dX4_stateBehind_42 : decode cX4_stateBehind 42 = .ok (.iconst 0, 1) := by decide +kernel
theorem dX4_stateBehind_43 : decode cX4_stateBehind 43 = .ok (.goto 4, 3) := by decide +kernel
theorem dX4_stateBehind_46 : decode cX4_stateBehind 46 = .ok (.iconst (-1), 1) := by decide +kernel
theorem dX4_stateBehind_47 : decode cX4_stateBehind 47 = .ok (.ireturn, 1) := by decide +kernel
theorem dX4_stateBehind_48 : decode cX4_stateBehind 48 = .ok (.iload_n 1, 1) := by decide +kernel
theorem dX4_stateBehind_49 : decode cX4_stateBehind 49 = .ok (.invokestatic 32, 3) := by decide +kernel
theorem dX4_stateBehind_52 : decode cX4_stateBehind 52 = .ok (.ifCond .eq 7, 3) := by decide +kernel
theorem dX4_stateBehind_55 : decode cX4_stateBehind 55 = .ok (.iconst 1, 1) := by decide +kernel
theorem dX4_stateBehind_56 : decode cX4_stateBehind 56 = .ok (.goto 4, 3) := by decide +kernel
theorem dX4_stateBehind_59 : decode cX4_stateBehind 59 = .ok (.iconst (-1), 1) := by decide +kernel
theorem dX4_stateBehind_60 : decode cX4_stateBehind 60 = .ok (.ireturn, 1) := by decide +kernel
theorem dX4_stateBehind_61 : decode cX4_stateBehind 61 = .ok (.iload_n 1, 1) := by decide +kernel
theorem dX4_stateBehind_62 : decode cX4_stateBehind 62 = .ok (.invokestatic 36, 3) := by decide +kernel
theorem dX4_stateBehind_65 : decode cX4_stateBehind 65 = .ok (.ireturn, 1) := by decide +kernel
theorem dX4_stateBehind_66 : decode cX4_stateBehind 66 = .ok (.iload_n 1, 1) := by decide +kernel
theorem dX4_stateBehind_67 : decode cX4_stateBehind 67 = .ok (.bipush 42, 2) := by decide +kernel
theorem dX4_stateBehind_69 : decode cX4_stateBehind 69 = .ok (.if_icmp .ne 7, 3) := by decide +kernel
theorem dX4_stateBehind_72 : decode cX4_stateBehind 72 = .ok (.iconst 1, 1) := by decide +kernel
theorem dX4_stateBehind_73 : decode cX4_stateBehind 73 = .ok (.goto 8, 3) := by decide +kernel
theorem dX4_stateBehind_76 : decode cX4_stateBehind 76 = .ok (.iload_n 1, 1) := by decide +kernel
theorem dX4_stateBehind_77 : decode cX4_stateBehind 77 = .ok (.iload_n 2, 1) := by decide +kernel
theorem dX4_stateBehind_78 : decode cX4_stateBehind 78 = .ok (.invokestatic 39, 3) := by decide +kernel
theorem dX4_stateBehind_81 : decode cX4_stateBehind 81 = .ok (.ireturn, 1) := by decide +kernel
theorem dX4_stateBehind_82 : decode cX4_stateBehind 82 = .ok (.iload_n 1, 1) := by decide +kernel
theorem dX4_stateBehind_83 : decode cX4_stateBehind 83 = .ok (.iload_n 2, 1) := by decide +kernel
theorem dX4_stateBehind_84 : decode cX4_stateBehind 84 = .ok (.invokestatic 39, 3) := by decide +kernel
theorem dX4_stateBehind_87 : decode cX4_stateBehind 87 = .ok (.ireturn, 1) := by decide +kernel
theorem dX4_stateBehind_88 : decode cX4_stateBehind 88 = .ok (.iload_n 1, 1) := by decide +kernel
theorem dX4_stateBehind_89 : decode cX4_stateBehind 89 = .ok (.invokestatic 43, 3) := by decide +kernel
theorem dX4_stateBehind_92 : decode cX4_stateBehind 92 = .ok (.ireturn, 1) := by decide +kernel
set_option maxRecDepth 20000 in
theorem ggX4_stateBehindItem_X4_stateInItem : GoodIn wsX4_stateBehindItem wsX4_stateInItem := goodIn_r _ [4, 5, 6, 3, 7, 8, 9, 10, 11, 12, 13] (by decide +kernel) (by decide +kernel)
set_option maxRecDepth 20000 in
theorem gX4_stateBehindItem_X4_stateInItem : GoodIn wsX4_stateBehindItem (va_wsS RX4 43 yX4_stateInItem wsX4_stateInItem) := goodIn_app (goodIn_of _ (by decide +kernel)) ggX4_stateBehindItem_X4_stateInItem
theorem dX4_stateBehindItem_0 : decode cX4_stateBehindItem 0 = .ok (.iload_n 0, 1) := by decide +kernel
theorem dX4_stateBehindItem_1 : decode cX4_stateBehindItem 1 = .ok (.bipush 41, 2) := by decide +kernel
theorem dX4_stateBehindItem_3 : decode cX4_stateBehindItem 3 = .ok (.if_icmp .ne 13, 3) := by decide +kernel
theorem dX4_stateBehindItem_6 : decode cX4_stateBehindItem 6 = .ok (.iload_n 1, 1) := by decide +kernel
theorem dX4_stateBehindItem_7 : decode cX4_stateBehindItem 7 = .ok (.ifCond .le 7, 3) := by decide +kernel
theorem dX4_stateBehindItem_10 : decode cX4_stateBehindItem 10 = .ok (.iconst 1, 1) := by decide +kernel
theorem dX4_stateBehindItem_11 : decode cX4_stateBehindItem 11 = .ok (.goto 4, 3) := by decide +kernel
theorem dX4_stateBehindItem_14 : decode cX4_stateBehindItem 14 = .ok (.iconst (-1), 1) := by decide +kernel
theorem dX4_stateBehindItem_15 : decode cX4_stateBehindItem 15 = .ok (.ireturn, 1) := by decide +kernel
theorem dX4_stateBehindItem_16 : decode cX4_stateBehindItem 16 = .ok (.iload_n 0, 1) := by decide +kernel
theorem dX4_stateBehindItem_17 : decode cX4_stateBehindItem 17 = .ok (.invokestatic 43, 3) := by decide +kernel
theorem dX4_stateBehindItem_20 : decode cX4_stateBehindItem 20 = .ok (.ireturn, 1) := by decide +kernel
set_option maxRecDepth 20000 in
theorem ggX4_stateInItem_X4_isTimes : GoodIn wsX4_stateInItem wsX4_isTimes := goodIn_r _ [4] (by decide +kernel) (by decide +kernel)
set_option maxRecDepth 20000 in
theorem gX4_stateInItem_X4_isTimes : GoodIn wsX4_stateInItem (va_wsS RX4 46 yX4_isTimes wsX4_isTimes) := goodIn_app (goodIn_of _ (by decide +kernel)) ggX4_stateInItem_X4_isTimes
set_option maxRecDepth 20000 in
theorem ggX4_stateInItem_X4_stateInStroke : GoodIn wsX4_stateInItem wsX4_stateInStroke := goodIn_r _ [7, 8, 9, 3, 10] (by decide +kernel) (by decide +kernel)
set_option maxRecDepth 20000 in
theorem gX4_stateInItem_X4_stateInStroke : GoodIn wsX4_stateInItem (va_wsS RX4 36 yX4_stateInStroke wsX4_stateInStroke) := goodIn_app (goodIn_of _ (by decide +kernel)) ggX4_stateInItem_X4_stateInStroke
theorem dX4_stateInItem_0 : decode cX4_stateInItem 0 = .ok (.iload_n 0, 1) := by decide +kernel
theorem dX4_stateInItem_1 : decode cX4_stateInItem 1 = .ok (.bipush 46, 2) := by decide +kernel
theorem dX4_stateInItem_3 : decode cX4_stateInItem 3 = .ok (.if_icmp .ne 5, 3) := by decide +kernel
theorem dX4_stateInItem_6 : decode cX4_stateInItem 6 = .ok (.iconst 1, 1) := by decide +kernel
theorem dX4_stateInItem_7 : decode cX4_stateInItem 7 = .ok (.ireturn, 1) := by decide +kernel
theorem dX4_stateInItem_8 : decode cX4_stateInItem 8 = .ok (.iload_n 0, 1) := by decide +kernel
theorem dX4_stateInItem_9 : decode cX4_stateInItem 9 = .ok (.bipush 62, 2) := by decide +kernel
theorem dX4_stateInItem_11 : decode cX4_stateInItem 11 = .ok (.if_icmp .ne 5, 3) := by decide +kernel
theorem dX4_stateInItem_14 : decode cX4_stateInItem 14 = .ok (.iconst 3, 1) := by decide +kernel
theorem dX4_stateInItem_15 : decode cX4_stateInItem 15 = .ok (.ireturn, 1) := by decide +kernel
theorem dX4_stateInItem_16 : decode cX4_stateInItem 16 = .ok (.iload_n 0, 1) := by decide +kernel
theorem dX4_stateInItem_17 : decode cX4_stateInItem 17 = .ok (.invokestatic 46, 3) := by decide +kernel
theorem dX4_stateInItem_20 : decode cX4_stateInItem 20 = .ok (.ifCond .eq 7, 3) := by decide +kernel
theorem dX4_stateInItem_23 : decode cX4_stateInItem 23 = .ok (.iconst 5, 1) := by decide +kernel
theorem dX4_stateInItem_24 : decode cX4_stateInItem 24 = .ok (.goto 7, 3) := by decide +kernel
theorem dX4_stateInItem_27 : decode cX4_stateInItem 27 = .ok (.iload_n 0, 1) := by decide +kernel
theorem dX4_stateInItem_28 : decode cX4_stateInItem 28 = .ok (.invokestatic 36, 3) := by decide +kernel
theorem dX4_stateInItem_31 : decode cX4_stateInItem 31 = .ok (.ireturn, 1) := by decide +kernel
set_option maxRecDepth 20000 in
theorem ggX4_stateInStroke_X4_isHandSign : GoodIn wsX4_stateInStroke wsX4_isHandSign := goodIn_r _ [4] (by decide +kernel) (by decide +kernel)
set_option maxRecDepth 20000 in
theorem gX4_stateInStroke_X4_isHandSign : GoodIn wsX4_stateInStroke (va_wsS RX4 32 yX4_isHandSign wsX4_isHandSign) := goodIn_app (goodIn_of _ (by decide +kernel)) ggX4_stateInStroke_X4_isHandSign
theorem dX4_stateInStroke_0 : decode cX4_stateInStroke 0 = .ok (.iload_n 0, 1) := by decide +kernel
theorem dX4_stateInStroke_1 : decode cX4_stateInStroke 1 = .ok (.bipush 102, 2) := by decide +kernel
theorem dX4_stateInStroke_3 : decode cX4_stateInStroke 3 = .ok (.if_icmp .eq 9, 3) := by decide +kernel
theorem dX4_stateInStroke_6 : decode cX4_stateInStroke 6 = .ok (.iload_n 0, 1) := by decide +kernel
theorem dX4_stateInStroke_7 : decode cX4_stateInStroke 7 = .ok (.bipush 100, 2) := by decide +kernel
theorem dX4_stateInStroke_9 : decode cX4_stateInStroke 9 = .ok (.if_icmp .ne 5, 3) := by decide +kernel
theorem dX4_stateInStroke_12 : decode cX4_stateInStroke 12 = .ok (.iconst 4, 1) := by decide +kernel
theorem dX4_stateInStroke_13 : decode cX4_stateInStroke 13 = .ok (.ireturn, 1) := by decide +kernel
theorem dX4_stateInStroke_14 : decode cX4_stateInStroke 14 = .ok (.iload_n 0, 1) := by decide +kernel
theorem dX4_stateInStroke_15 : decode cX4_stateInStroke 15 = .ok (.invokestatic 32, 3) := by decide +kernel
theorem dX4_stateInStroke_18 : decode cX4_stateInStroke 18 = .ok (.ifCond .eq 7, 3) := by decide +kernel
theorem dX4_stateInStroke_21 : decode cX4_stateInStroke 21 = .ok (.iconst 2, 1) := by decide +kernel
theorem dX4_stateInStroke_22 : decode cX4_stateInStroke 22 = .ok (.goto 4, 3) := by decide +kernel
theorem dX4_stateInStroke_25 : decode cX4_stateInStroke 25 = .ok (.iconst (-1), 1) := by decide +kernel
theorem dX4_stateInStroke_26 : decode cX4_stateInStroke 26 = .ok (.ireturn, 1) := by decide +kernel
theorem dX4_isTimes_0 : decode cX4_isTimes 0 = .ok (.iload_n 0, 1) := by decide +kernel
theorem dX4_isTimes_1 : decode cX4_isTimes 1 = .ok (.bipush 50, 2) := by decide +kernel
theorem dX4_isTimes_3 : decode cX4_isTimes 3 = .ok (.if_icmp .lt 13, 3) := by decide +kernel
theorem dX4_isTimes_6 : decode cX4_isTimes 6 = .ok (.iload_n 0, 1) := by decide +kernel
theorem dX4_isTimes_7 : decode cX4_isTimes 7 = .ok (.bipush 57, 2) := by decide +kernel
theorem dX4_isTimes_9 : decode cX4_isTimes 9 = .ok (.if_icmp .gt 7, 3) := by decide +kernel
theorem dX4_isTimes_12 : decode cX4_isTimes 12 = .ok (.iconst 1, 1) := by decide +kernel
theorem dX4_isTimes_13 : decode cX4_isTimes 13 = .ok (.goto 4, 3) := by decide +kernel
theorem dX4_isTimes_16 : decode cX4_isTimes 16 = .ok (.iconst 0, 1) := by decide +kernel
theorem dX4_isTimes_17 : decode cX4_isTimes 17 = .ok (.ireturn, 1) := by decide +kernel
set_option maxRecDepth 20000 in
theorem ggX4_write_X1_at : GoodIn wsX4_write wsX1_at := goodIn_r _ [5, 6, 7, 65, 66] (by decide +kernel) (by decide +kernel)
set_option maxRecDepth 20000 in
theorem gX4_write_X1_at : GoodIn wsX4_write (wsV RX4 24 RX1 yX1_at wsX1_at) := goodIn_app (goodIn_of _ (by decide +kernel)) ggX4_write_X1_at
set_option maxRecDepth 20000 in
theorem ggX4_write_X4_isHandSign : GoodIn wsX4_write wsX4_isHandSign := goodIn_r _ [11] (by decide +kernel) (by decide +kernel)
set_option maxRecDepth 20000 in
theorem gX4_write_X4_isHandSign : GoodIn wsX4_write (va_wsS RX4 32 yX4_isHandSign wsX4_isHandSign) := goodIn_app (goodIn_of _ (by decide +kernel)) ggX4_write_X4_isHandSign
set_option maxRecDepth 20000 in
theorem ggX4_write_X4_handOf : GoodIn wsX4_write wsX4_handOf := goodIn_r _ [14] (by decide +kernel) (by decide +kernel)
set_option maxRecDepth 20000 in
theorem gX4_write_X4_handOf : GoodIn wsX4_write (va_wsS RX4 49 yX4_handOf wsX4_handOf) := goodIn_app (goodIn_of _ (by decide +kernel)) ggX4_write_X4_handOf
set_option maxRecDepth 20000 in
theorem ggX4_write_X5_of : GoodIn wsX4_write wsX5_of := goodIn_r _ [18] (by decide +kernel) (by decide +kernel)
set_option maxRecDepth 20000 in
theorem gX4_write_X5_of : GoodIn wsX4_write (va_wsS RX4 52 yX5_of wsX5_of) := goodIn_app (goodIn_of _ (by decide +kernel)) ggX4_write_X5_of
set_option maxRecDepth 20000 in
theorem ggX4_write_X2_add : GoodIn wsX4_write wsX2_add := goodIn_r _ [23, 24, 25, 26, 27, 28, 22, 29, 67, 68, 69] (by decide +kernel) (by decide +kernel)
set_option maxRecDepth 20000 in
theorem gX4_write_X2_add : GoodIn wsX4_write (wsV RX4 58 RX2 yX2_add wsX2_add) := goodIn_app (goodIn_of _ (by decide +kernel)) ggX4_write_X2_add
set_option maxRecDepth 20000 in
theorem ggX4_write_X4_makeLastDouble : GoodIn wsX4_write wsX4_makeLastDouble := goodIn_r _ [32, 33, 34, 35, 22, 36, 24, 37, 38, 39, 40, 25, 41, 42, 17, 43, 44, 45, 46, 47, 48, 49, 50, 16, 18, 51, 52, 53, 54, 67, 68, 69] (by decide +kernel) (by decide +kernel)
set_option maxRecDepth 20000 in
theorem gX4_write_X4_makeLastDouble : GoodIn wsX4_write (va_wsS RX4 63 yX4_makeLastDouble wsX4_makeLastDouble) := goodIn_app (goodIn_of _ (by decide +kernel)) ggX4_write_X4_makeLastDouble
set_option maxRecDepth 20000 in
theorem ggX4_write_X4_open : GoodIn wsX4_write wsX4_open := goodIn_r _ [58, 59, 60, 70, 71] (by decide +kernel) (by decide +kernel)
set_option maxRecDepth 20000 in
theorem gX4_write_X4_open : GoodIn wsX4_write (wsV RX4 68 RX4 yX4_open wsX4_open) := goodIn_app (goodIn_of _ (by decide +kernel)) ggX4_write_X4_open
set_option maxRecDepth 20000 in
theorem ggX4_write_X4_repeat : GoodIn wsX4_write wsX4_repeat := goodIn_r _ [64, 59, 60, 33, 34, 35, 22, 36, 24, 37, 38, 39, 40, 25, 19, 20, 21, 23, 26, 27, 28, 29, 70, 71, 67, 68, 69] (by decide +kernel) (by decide +kernel)
set_option maxRecDepth 20000 in
theorem gX4_write_X4_repeat : GoodIn wsX4_write (wsV RX4 72 RX4 yX4_repeat wsX4_repeat) := goodIn_app (goodIn_of _ (by decide +kernel)) ggX4_write_X4_repeat
theorem dX4_write_0 : decode cX4_write 0 = .ok (.iconst 0, 1) := by decide +kernel
theorem dX4_write_1 : decode cX4_write 1 = .ok (.istore_n 3, 1) := by decide +kernel
theorem dX4_write_2 : decode cX4_write 2 = .ok (.iconst 0, 1) := by decide +kernel
theorem dX4_write_3 : decode cX4_write 3 = .ok (.istore 4, 2) := by decide +kernel
theorem dX4_write_5 : decode cX4_write 5 = .ok (.iconst 0, 1) := by decide +kernel
theorem dX4_write_6 : decode cX4_write 6 = .ok (.istore 5, 2) := by decide +kernel
theorem dX4_write_8 : decode cX4_write 8 = .ok (.iconst 1, 1) := by decide +kernel
theorem dX4_write_9 : decode cX4_write 9 = .ok (.istore 6, 2) := by decide +kernel
theorem dX4_write_11 : decode cX4_write 11 = .ok (.iconst 0, 1) := by decide +kernel
theorem dX4_write_12 : decode cX4_write 12 = .ok (.istore 7, 2) := by decide +kernel
theorem dX4_write_14 : decode cX4_write 14 = .ok (.iload 7, 2) := by decide +kernel
theorem dX4_write_16 : decode cX4_write 16 = .ok (.aload_n 1, 1) := by decide +kernel
theorem dX4_write_17 : decode cX4_write 17 = .ok (.getfield 18, 3) := by decide +kernel
theorem dX4_write_20 : decode cX4_write 20 = .ok (.if_icmp .ge 182, 3) := by decide +kernel
theorem dX4_write_23 : decode cX4_write 23 = .ok (.iload 6, 2) := by decide +kernel
theorem dX4_write_25 : decode cX4_write 25 = .ok (.ifCond .eq 177, 3) := by decide +kernel
theorem dX4_write_28 : decode cX4_write 28 = .ok (.aload_n 1, 1) := by decide +kernel
theorem dX4_write_29 : decode cX4_write 29 = .ok (.iload 7, 2) := by decide +kernel
theorem dX4_write_31 : decode cX4_write 31 = .ok (.invokevirtual 24, 3) := by decide +kernel
theorem dX4_write_34 : decode cX4_write 34 = .ok (.istore 8, 2) := by decide +kernel
theorem dX4_write_36 : decode cX4_write 36 = .ok (.iload 8, 2) := by decide +kernel
theorem dX4_write_38 : decode cX4_write 38 = .ok (.bipush 62, 2) := by decide +kernel
theorem dX4_write_40 : decode cX4_write 40 = .ok (.if_icmp .ne 8, 3) := by decide +kernel
theorem dX4_write_43 : decode cX4_write 43 = .ok (.iconst 1, 1) := by decide +kernel
theorem dX4_write_44 : decode cX4_write 44 = .ok (.istore_n 3, 1) := by decide +kernel
theorem dX4_write_45 : decode cX4_write 45 = .ok (.goto 151, 3) := by decide +kernel
theorem dX4_write_48 : decode cX4_write 48 = .ok (.iload 8, 2) := by decide +kernel
theorem dX4_write_50 : decode cX4_write 50 = .ok (.bipush 102, 2) := by decide +kernel
theorem dX4_write_52 : decode cX4_write 52 = .ok (.if_icmp .eq 10, 3) := by decide +kernel
theorem dX4_write_55 : decode cX4_write 55 = .ok (.iload 8, 2) := by decide +kernel
theorem dX4_write_57 : decode cX4_write 57 = .ok (.bipush 100, 2) := by decide +kernel
theorem dX4_write_59 : decode cX4_write 59 = .ok (.if_icmp .ne 20, 3) := by decide +kernel
theorem dX4_write_62 : decode cX4_write 62 = .ok (.iload 8, 2) := by decide +kernel
theorem dX4_write_64 : decode cX4_write 64 = .ok (.bipush 102, 2) := by decide +kernel
theorem dX4_write_66 : decode cX4_write 66 = .ok (.if_icmp .ne 7, 3) := by decide +kernel
theorem dX4_write_69 : decode cX4_write 69 = .ok (.iconst 1, 1) := by decide +kernel
theorem dX4_write_70 : decode cX4_write 70 = .ok (.goto 4, 3) := by decide +kernel
theorem dX4_write_73 : decode cX4_write 73 = .ok (.iconst 2, 1) := by decide +kernel
theorem dX4_write_74 : decode cX4_write 74 = .ok (.istore 4, 2) := by decide +kernel
theorem dX4_write_76 : decode cX4_write 76 = .ok (.goto 120, 3) := by decide +kernel
theorem dX4_write_79 : decode cX4_write 79 = .ok (.iload 8, 2) := by decide +kernel
theorem dX4_write_81 : decode cX4_write 81 = .ok (.invokestatic 32, 3) := by decide +kernel
theorem dX4_write_84 : decode cX4_write 84 = .ok (.ifCond .eq 28, 3) := by decide +kernel
theorem dX4_write_87 : decode cX4_write 87 = .ok (.aload_n 2, 1) := by decide +kernel
theorem dX4_write_88 : decode cX4_write 88 = .ok (.iload 8, 2) := by decide +kernel
theorem dX4_write_90 : decode cX4_write 90 = .ok (.invokestatic 49, 3) := by decide +kernel
theorem dX4_write_93 : decode cX4_write 93 = .ok (.iload_n 3, 1) := by decide +kernel
theorem dX4_write_94 : decode cX4_write 94 = .ok (.iload 4, 2) := by decide +kernel
theorem dX4_write_96 : decode cX4_write 96 = .ok (.invokestatic 52, 3) := by decide +kernel
theorem dX4_write_99 : decode cX4_write 99 = .ok (.invokevirtual 58, 3) := by decide +kernel
theorem dX4_write_102 : decode cX4_write 102 = .ok (.istore 6, 2) := by decide +kernel
theorem dX4_write_104 : decode cX4_write 104 = .ok (.iconst 0, 1) := by decide +kernel
theorem dX4_write_105 : decode cX4_write 105 = .ok (.istore_n 3, 1) := by decide +kernel
theorem dX4_write_106 : decode cX4_write 106 = .ok (.iconst 0, 1) := by decide +kernel
theorem dX4_write_107 : decode cX4_write 107 = .ok (.istore 4, 2) := by decide +kernel
theorem dX4_write_109 : decode cX4_write 109 = .ok (.goto 87, 3) := by decide +kernel
theorem dX4_write_112 : decode cX4_write 112 = .ok (.iload 8, 2) := by decide +kernel
theorem dX4_write_114 : decode cX4_write 114 = .ok (.bipush 42, 2) := by decide +kernel
theorem dX4_write_116 : decode cX4_write 116 = .ok (.if_icmp .ne 10, 3) := by decide +kernel
theorem dX4_write_119 : decode cX4_write 119 = .ok (.aload_n 2, 1) := by decide +kernel
theorem dX4_write_120 : decode cX4_write 120 = .ok (.invokestatic 63, 3) := by decide +kernel
theorem dX4_write_123 : decode cX4_write 123 = .ok (.goto 73, 3) := by decide +kernel
theorem dX4_write_126 : decode cX4_write 126 = .ok (.iload 8, 2) := by decide +kernel
theorem dX4_write_128 : decode cX4_write 128 = .ok (.bipush 46, 2) := by decide +kernel
theorem dX4_write_130 : decode cX4_write 130 = .ok (.if_icmp .ne 13, 3) := by decide +kernel
theorem dX4_write_133 : decode cX4_write 133 = .ok (.aload_n 2, 1) := by decide +kernel
theorem dX4_write_134 : decode cX4_write 134 = .ok (.iconst 0, 1) := by decide +kernel
theorem dX4_write_135 : decode cX4_write 135 = .ok (.invokevirtual 58, 3) := by decide +kernel
theorem dX4_write_138 : decode cX4_write 138 = .ok (.istore 6, 2) := by decide +kernel
theorem dX4_write_140 : decode cX4_write 140 = .ok (.goto 56, 3) := by decide +kernel
theorem dX4_write_143 : decode cX4_write 143 = .ok (.iload 8, 2) := by decide +kernel
theorem dX4_write_145 : decode cX4_write 145 = .ok (.bipush 40, 2) := by decide +kernel
theorem dX4_write_147 : decode cX4_write 147 = .ok (.if_icmp .ne 30, 3) := by decide +kernel
theorem dX4_write_150 : decode cX4_write 150 = .ok (.aload_n 0, 1) := by decide +kernel
theorem dX4_write_151 : decode cX4_write 151 = .ok (.iload 5, 2) := by decide +kernel
theorem dX4_write_153 : decode cX4_write 153 = .ok (.aload_n 2, 1) := by decide +kernel
theorem dX4_write_154 : decode cX4_write 154 = .ok (.getfield 67, 3) := by decide +kernel
theorem dX4_write_157 : decode cX4_write 157 = .ok (.aload_n 1, 1) := by decide +kernel
theorem dX4_write_158 : decode cX4_write 158 = .ok (.iload 7, 2) := by decide +kernel
theorem dX4_write_160 : decode cX4_write 160 = .ok (.iconst 1, 1) := by decide +kernel
theorem dX4_write_161 : decode cX4_write 161 = .ok (.isub, 1) := by decide +kernel
theorem dX4_write_162 : decode cX4_write 162 = .ok (.invokevirtual 24, 3) := by decide +kernel
theorem dX4_write_165 : decode cX4_write 165 = .ok (.bipush 48, 2) := by decide +kernel
theorem dX4_write_167 : decode cX4_write 167 = .ok (.isub, 1) := by decide +kernel
theorem dX4_write_168 : decode cX4_write 168 = .ok (.invokevirtual 68, 3) := by decide +kernel
theorem dX4_write_171 : decode cX4_write 171 = .ok (.iinc 5 1, 3) := by decide +kernel
theorem dX4_write_174 : decode cX4_write 174 = .ok (.goto 22, 3) := by decide +kernel
theorem dX4_write_177 : decode cX4_write 177 = .ok (.iload 8, 2) := by decide +kernel
theorem dX4_write_179 : decode cX4_write 179 = .ok (.bipush 41, 2) := by decide +kernel
theorem dX4_write_181 : decode cX4_write 181 = .ok (.if_icmp .ne 15, 3) := by decide +kernel
theorem dX4_write_184 : decode cX4_write 184 = .ok (.iinc 5 (-1), 3) := by decide +kernel
theorem dX4_write_187 : decode cX4_write 187 = .ok (.aload_n 0, 1) := by decide +kernel
theorem dX4_write_188 : decode cX4_write 188 = .ok (.iload 5, 2) := by decide +kernel
theorem dX4_write_190 : decode cX4_write 190 = .ok (.aload_n 2, 1) := by decide +kernel
theorem dX4_write_191 : decode cX4_write 191 = .ok (.invokevirtual 72, 3) := by decide +kernel
theorem dX4_write_194 : decode cX4_write 194 = .ok (.istore 6, 2) := by decide +kernel
theorem dX4_write_196 : decode cX4_write 196 = .ok (.iinc 7 1, 3) := by decide +kernel
theorem dX4_write_199 : decode cX4_write 199 = .ok (.goto (-185), 3) := by decide +kernel
theorem dX4_write_202 : decode cX4_write 202 = .ok (.iload 6, 2) := by decide +kernel
theorem dX4_write_204 : decode cX4_write 204 = .ok (.ireturn, 1) := by decide +kernel
theorem dX4_handOf_0 : decode cX4_handOf 0 = .ok (.iload_n 0, 1) := by decide +kernel
theorem dX4_handOf_1 : decode cX4_handOf 1 = .ok (.bipush 120, 2) := by decide +kernel
theorem dX4_handOf_3 : decode cX4_handOf 3 = .ok (.if_icmp .ne 5, 3) := by decide +kernel
theorem dX4_handOf_6 : decode cX4_handOf 6 = .ok (.iconst 2, 1) := by decide +kernel
theorem dX4_handOf_7 : decode cX4_handOf 7 = .ok (.ireturn, 1) := by decide +kernel
theorem dX4_handOf_8 : decode cX4_handOf 8 = .ok (.iload_n 0, 1) := by decide +kernel
theorem dX4_handOf_9 : decode cX4_handOf 9 = .ok (.bipush 82, 2) := by decide +kernel
theorem dX4_handOf_11 : decode cX4_handOf 11 = .ok (.if_icmp .ne 7, 3) := by decide +kernel
theorem dX4_handOf_14 : decode cX4_handOf 14 = .ok (.iconst 0, 1) := by decide +kernel
theorem dX4_handOf_15 : decode cX4_handOf 15 = .ok (.goto 4, 3) := by decide +kernel
theorem dX4_handOf_18 : decode cX4_handOf 18 = .ok (.iconst 1, 1) := by decide +kernel
theorem dX4_handOf_19 : decode cX4_handOf 19 = .ok (.ireturn, 1) := by decide +kernel
set_option maxRecDepth 20000 in
theorem ggX4_makeLastDouble_X2_at : GoodIn wsX4_makeLastDouble wsX2_at := goodIn_r _ [5, 6, 7, 8, 9, 4, 10, 11, 29, 30, 31] (by decide +kernel) (by decide +kernel)
set_option maxRecDepth 20000 in
theorem gX4_makeLastDouble_X2_at : GoodIn wsX4_makeLastDouble (wsV RX4 76 RX2 yX2_at wsX2_at) := goodIn_app (goodIn_of _ (by decide +kernel)) ggX4_makeLastDouble_X2_at
set_option maxRecDepth 20000 in
theorem ggX4_makeLastDouble_X5_withOrnament : GoodIn wsX4_makeLastDouble wsX5_withOrnament := goodIn_r _ [15, 16, 17, 14, 18, 19, 20, 21, 22, 23, 24] (by decide +kernel) (by decide +kernel)
set_option maxRecDepth 20000 in
theorem gX4_makeLastDouble_X5_withOrnament : GoodIn wsX4_makeLastDouble (va_wsS RX4 77 yX5_withOrnament wsX5_withOrnament) := goodIn_app (goodIn_of _ (by decide +kernel)) ggX4_makeLastDouble_X5_withOrnament
set_option maxRecDepth 20000 in
theorem ggX4_makeLastDouble_X2_change : GoodIn wsX4_makeLastDouble wsX2_change := goodIn_r _ [28, 6, 7, 8, 9, 4, 10, 11, 29, 30, 31] (by decide +kernel) (by decide +kernel)
set_option maxRecDepth 20000 in
theorem gX4_makeLastDouble_X2_change : GoodIn wsX4_makeLastDouble (wsV RX4 80 RX2 yX2_change wsX2_change) := goodIn_app (goodIn_of _ (by decide +kernel)) ggX4_makeLastDouble_X2_change
theorem dX4_makeLastDouble_0 : decode cX4_makeLastDouble 0 = .ok (.aload_n 0, 1) := by decide +kernel
theorem dX4_makeLastDouble_1 : decode cX4_makeLastDouble 1 = .ok (.getfield 67, 3) := by decide +kernel
theorem dX4_makeLastDouble_4 : decode cX4_makeLastDouble 4 = .ok (.iconst 1, 1) := by decide +kernel
theorem dX4_makeLastDouble_5 : decode cX4_makeLastDouble 5 = .ok (.isub, 1) := by decide +kernel
theorem dX4_makeLastDouble_6 : decode cX4_makeLastDouble 6 = .ok (.istore_n 1, 1) := by decide +kernel
theorem dX4_makeLastDouble_7 : decode cX4_makeLastDouble 7 = .ok (.aload_n 0, 1) := by decide +kernel
theorem dX4_makeLastDouble_8 : decode cX4_makeLastDouble 8 = .ok (.iload_n 1, 1) := by decide +kernel
theorem dX4_makeLastDouble_9 : decode cX4_makeLastDouble 9 = .ok (.aload_n 0, 1) := by decide +kernel
theorem dX4_makeLastDouble_10 : decode cX4_makeLastDouble 10 = .ok (.iload_n 1, 1) := by decide +kernel
theorem dX4_makeLastDouble_11 : decode cX4_makeLastDouble 11 = .ok (.invokevirtual 76, 3) := by decide +kernel
theorem dX4_makeLastDouble_14 : decode cX4_makeLastDouble 14 = .ok (.iconst 3, 1) := by decide +kernel
theorem dX4_makeLastDouble_15 : decode cX4_makeLastDouble 15 = .ok (.invokestatic 77, 3) := by decide +kernel
theorem dX4_makeLastDouble_18 : decode cX4_makeLastDouble 18 = .ok (.invokevirtual 80, 3) := by decide +kernel
theorem dX4_makeLastDouble_21 : decode cX4_makeLastDouble 21 = .ok (.return_, 1) := by decide +kernel
theorem dX4_open_0 : decode cX4_open 0 = .ok (.iload_n 1, 1) := by decide +kernel
theorem dX4_open_1 : decode cX4_open 1 = .ok (.ifCond .lt 35, 3) := by decide +kernel
theorem dX4_open_4 : decode cX4_open 4 = .ok (.iload_n 1, 1) := by decide +kernel
theorem dX4_open_5 : decode cX4_open 5 = .ok (.aload_n 0, 1) := by decide +kernel
theorem dX4_open_6 : decode cX4_open 6 = .ok (.getfield 9, 3) := by decide +kernel
theorem dX4_open_9 : decode cX4_open 9 = .ok (.arraylength, 1) := by decide +kernel
theorem dX4_open_10 : decode cX4_open 10 = .ok (.if_icmp .ge 26, 3) := by decide +kernel
theorem dX4_open_13 : decode cX4_open 13 = .ok (.iload_n 1, 1) := by decide +kernel
theorem dX4_open_14 : decode cX4_open 14 = .ok (.aload_n 0, 1) := by decide +kernel
theorem dX4_open_15 : decode cX4_open 15 = .ok (.getfield 15, 3) := by decide +kernel
theorem dX4_open_18 : decode cX4_open 18 = .ok (.arraylength, 1) := by decide +kernel
theorem dX4_open_19 : decode cX4_open 19 = .ok (.if_icmp .ge 17, 3) := by decide +kernel
theorem dX4_open_22 : decode cX4_open 22 = .ok (.aload_n 0, 1) := by decide +kernel
theorem dX4_open_23 : decode cX4_open 23 = .ok (.getfield 9, 3) := by decide +kernel
theorem dX4_open_26 : decode cX4_open 26 = .ok (.iload_n 1, 1) := by decide +kernel
theorem dX4_open_27 : decode cX4_open 27 = .ok (.iload_n 2, 1) := by decide +kernel
theorem dX4_open_28 : decode cX4_open 28 = .ok (.iastore, 1) := by decide +kernel
theorem dX4_open_29 : decode cX4_open 29 = .ok (.aload_n 0, 1) := by decide +kernel
theorem dX4_open_30 : decode cX4_open 30 = .ok (.getfield 15, 3) := by decide +kernel
theorem dX4_open_33 : decode cX4_open 33 = .ok (.iload_n 1, 1) := by decide +kernel
theorem dX4_open_34 : decode cX4_open 34 = .ok (.iload_n 3, 1) := by decide +kernel
theorem dX4_open_35 : decode cX4_open 35 = .ok (.iastore, 1) := by decide +kernel
theorem dX4_open_36 : decode cX4_open 36 = .ok (.return_, 1) := by decide +kernel
set_option maxRecDepth 20000 in
theorem ggX4_repeat_X2_at : GoodIn wsX4_repeat wsX2_at := goodIn_r _ [7, 8, 9, 10, 11, 6, 12, 13, 24, 25, 26] (by decide +kernel) (by decide +kernel)
set_option maxRecDepth 20000 in
theorem gX4_repeat_X2_at : GoodIn wsX4_repeat (wsV RX4 76 RX2 yX2_at wsX2_at) := goodIn_app (goodIn_of _ (by decide +kernel)) ggX4_repeat_X2_at
set_option maxRecDepth 20000 in
theorem ggX4_repeat_X2_add : GoodIn wsX4_repeat wsX2_add := goodIn_r _ [17, 8, 13, 18, 19, 20, 6, 21, 24, 25, 26] (by decide +kernel) (by decide +kernel)
set_option maxRecDepth 20000 in
theorem gX4_repeat_X2_add : GoodIn wsX4_repeat (wsV RX4 58 RX2 yX2_add wsX2_add) := goodIn_app (goodIn_of _ (by decide +kernel)) ggX4_repeat_X2_add
theorem dX4_repeat_0 : decode cX4_repeat 0 = .ok (.iload_n 1, 1) := by decide +kernel
theorem dX4_repeat_1 : decode cX4_repeat 1 = .ok (.ifCond .lt 21, 3) := by decide +kernel
theorem dX4_repeat_4 : decode cX4_repeat 4 = .ok (.iload_n 1, 1) := by decide +kernel
theorem dX4_repeat_5 : decode cX4_repeat 5 = .ok (.aload_n 0, 1) := by decide +kernel
theorem dX4_repeat_6 : decode cX4_repeat 6 = .ok (.getfield 9, 3) := by decide +kernel
theorem dX4_repeat_9 : decode cX4_repeat 9 = .ok (.arraylength, 1) := by decide +kernel
theorem dX4_repeat_10 : decode cX4_repeat 10 = .ok (.if_icmp .ge 12, 3) := by decide +kernel
theorem dX4_repeat_13 : decode cX4_repeat 13 = .ok (.iload_n 1, 1) := by decide +kernel
theorem dX4_repeat_14 : decode cX4_repeat 14 = .ok (.aload_n 0, 1) := by decide +kernel
theorem dX4_repeat_15 : decode cX4_repeat 15 = .ok (.getfield 15, 3) := by decide +kernel
theorem dX4_repeat_18 : decode cX4_repeat 18 = .ok (.arraylength, 1) := by decide +kernel
theorem dX4_repeat_19 : decode cX4_repeat 19 = .ok (.if_icmp .lt 5, 3) := by decide +kernel
theorem dX4_repeat_22 : decode cX4_repeat 22 = .ok (.iconst 0, 1) := by decide +kernel
theorem dX4_repeat_23 : decode cX4_repeat 23 = .ok (.ireturn, 1) := by decide +kernel
theorem dX4_repeat_24 : decode cX4_repeat 24 = .ok (.aload_n 2, 1) := by decide +kernel
theorem dX4_repeat_25 : decode cX4_repeat 25 = .ok (.getfield 67, 3) := by decide +kernel
theorem dX4_repeat_28 : decode cX4_repeat 28 = .ok (.istore_n 3, 1) := by decide +kernel
theorem dX4_repeat_29 : decode cX4_repeat 29 = .ok (.iconst 1, 1) := by decide +kernel
theorem dX4_repeat_30 : decode cX4_repeat 30 = .ok (.istore 4, 2) := by decide +kernel
theorem dX4_repeat_32 : decode cX4_repeat 32 = .ok (.iload 4, 2) := by decide +kernel
theorem dX4_repeat_34 : decode cX4_repeat 34 = .ok (.aload_n 0, 1) := by decide +kernel
theorem dX4_repeat_35 : decode cX4_repeat 35 = .ok (.getfield 15, 3) := by decide +kernel
theorem dX4_repeat_38 : decode cX4_repeat 38 = .ok (.iload_n 1, 1) := by decide +kernel
theorem dX4_repeat_39 : decode cX4_repeat 39 = .ok (.iaload, 1) := by decide +kernel
theorem dX4_repeat_40 : decode cX4_repeat 40 = .ok (.if_icmp .ge 44, 3) := by decide +kernel
theorem dX4_repeat_43 : decode cX4_repeat 43 = .ok (.aload_n 0, 1) := by decide +kernel
theorem dX4_repeat_44 : decode cX4_repeat 44 = .ok (.getfield 9, 3) := by decide +kernel
theorem dX4_repeat_47 : decode cX4_repeat 47 = .ok (.iload_n 1, 1) := by decide +kernel
theorem dX4_repeat_48 : decode cX4_repeat 48 = .ok (.iaload, 1) := by decide +kernel
theorem dX4_repeat_49 : decode cX4_repeat 49 = .ok (.istore 5, 2) := by decide +kernel
theorem dX4_repeat_51 : decode cX4_repeat 51 = .ok (.iload 5, 2) := by decide +kernel
theorem dX4_repeat_53 : decode cX4_repeat 53 = .ok (.iload_n 3, 1) := by decide +kernel
theorem dX4_repeat_54 : decode cX4_repeat 54 = .ok (.if_icmp .ge 24, 3) := by decide +kernel
theorem dX4_repeat_57 : decode cX4_repeat 57 = .ok (.aload_n 2, 1) := by decide +kernel
theorem dX4_repeat_58 : decode cX4_repeat 58 = .ok (.aload_n 2, 1) := by decide +kernel
theorem dX4_repeat_59 : decode cX4_repeat 59 = .ok (.iload 5, 2) := by decide +kernel
theorem dX4_repeat_61 : decode cX4_repeat 61 = .ok (.invokevirtual 76, 3) := by decide +kernel
theorem dX4_repeat_64 : decode cX4_repeat 64 = .ok (.invokevirtual 58, 3) := by decide +kernel
theorem dX4_repeat_67 : decode cX4_repeat 67 = .ok (.ifCond .ne 5, 3) := by decide +kernel
theorem dX4_repeat_70 : decode cX4_repeat 70 = .ok (.iconst 0, 1) := by decide +kernel
theorem dX4_repeat_71 : decode cX4_repeat 71 = .ok (.ireturn, 1) := by decide +kernel
theorem dX4_repeat_72 : decode cX4_repeat 72 = .ok (.iinc 5 1, 3) := by decide +kernel
theorem dX4_repeat_75 : decode cX4_repeat 75 = .ok (.goto (-24), 3) := by decide +kernel
theorem dX4_repeat_78 : decode cX4_repeat 78 = .ok (.iinc 4 1, 3) := by decide +kernel
theorem dX4_repeat_81 : decode cX4_repeat 81 = .ok (.goto (-49), 3) := by decide +kernel
theorem dX4_repeat_84 : decode cX4_repeat 84 = .ok (.iconst 1, 1) := by decide +kernel
theorem dX4_repeat_85 : decode cX4_repeat 85 = .ok (.ireturn, 1) := by decide +kernel
