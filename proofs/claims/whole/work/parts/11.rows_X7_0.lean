theorem dX7_init_0 : decode cX7_init 0 = .ok (.aload_n 0, 1) := by decide +kernel
theorem dX7_init_1 : decode cX7_init 1 = .ok (.invokespecial 1, 3) := by decide +kernel
theorem dX7_init_4 : decode cX7_init 4 = .ok (.aload_n 0, 1) := by decide +kernel
theorem dX7_init_5 : decode cX7_init 5 = .ok (.bipush 34, 2) := by decide +kernel
theorem dX7_init_7 : decode cX7_init 7 = .ok (.newarray .int, 2) := by decide +kernel
theorem dX7_init_9 : decode cX7_init 9 = .ok (.putfield 7, 3) := by decide +kernel
theorem dX7_init_12 : decode cX7_init 12 = .ok (.aload_n 0, 1) := by decide +kernel
theorem dX7_init_13 : decode cX7_init 13 = .ok (.sipush 136, 3) := by decide +kernel
theorem dX7_init_16 : decode cX7_init 16 = .ok (.newarray .int, 2) := by decide +kernel
theorem dX7_init_18 : decode cX7_init 18 = .ok (.putfield 13, 3) := by decide +kernel
theorem dX7_init_21 : decode cX7_init 21 = .ok (.aload_n 0, 1) := by decide +kernel
theorem dX7_init_22 : decode cX7_init 22 = .ok (.bipush 34, 2) := by decide +kernel
theorem dX7_init_24 : decode cX7_init 24 = .ok (.newarray .int, 2) := by decide +kernel
theorem dX7_init_26 : decode cX7_init 26 = .ok (.putfield 16, 3) := by decide +kernel
theorem dX7_init_29 : decode cX7_init 29 = .ok (.aload_n 0, 1) := by decide +kernel
theorem dX7_init_30 : decode cX7_init 30 = .ok (.bipush 60, 2) := by decide +kernel
theorem dX7_init_32 : decode cX7_init 32 = .ok (.newarray .int, 2) := by decide +kernel
theorem dX7_init_34 : decode cX7_init 34 = .ok (.putfield 19, 3) := by decide +kernel
theorem dX7_init_37 : decode cX7_init 37 = .ok (.aload_n 0, 1) := by decide +kernel
theorem dX7_init_38 : decode cX7_init 38 = .ok (.bipush 99, 2) := by decide +kernel
theorem dX7_init_40 : decode cX7_init 40 = .ok (.newarray .int, 2) := by decide +kernel
theorem dX7_init_42 : decode cX7_init 42 = .ok (.putfield 22, 3) := by decide +kernel
theorem dX7_init_45 : decode cX7_init 45 = .ok (.aload_n 0, 1) := by decide +kernel
theorem dX7_init_46 : decode cX7_init 46 = .ok (.bipush 99, 2) := by decide +kernel
theorem dX7_init_48 : decode cX7_init 48 = .ok (.newarray .long, 2) := by decide +kernel
theorem dX7_init_50 : decode cX7_init 50 = .ok (.putfield 25, 3) := by decide +kernel
theorem dX7_init_53 : decode cX7_init 53 = .ok (.aload_n 0, 1) := by decide +kernel
theorem dX7_init_54 : decode cX7_init 54 = .ok (.bipush 32, 2) := by decide +kernel
theorem dX7_init_56 : decode cX7_init 56 = .ok (.newarray .int, 2) := by decide +kernel
theorem dX7_init_58 : decode cX7_init 58 = .ok (.putfield 29, 3) := by decide +kernel
theorem dX7_init_61 : decode cX7_init 61 = .ok (.aload_n 0, 1) := by decide +kernel
theorem dX7_init_62 : decode cX7_init 62 = .ok (.bipush 32, 2) := by decide +kernel
theorem dX7_init_64 : decode cX7_init 64 = .ok (.newarray .int, 2) := by decide +kernel
theorem dX7_init_66 : decode cX7_init 66 = .ok (.putfield 32, 3) := by decide +kernel
theorem dX7_init_69 : decode cX7_init 69 = .ok (.aload_n 0, 1) := by decide +kernel
theorem dX7_init_70 : decode cX7_init 70 = .ok (.bipush 33, 2) := by decide +kernel
theorem dX7_init_72 : decode cX7_init 72 = .ok (.newarray .int, 2) := by decide +kernel
theorem dX7_init_74 : decode cX7_init 74 = .ok (.putfield 35, 3) := by decide +kernel
theorem dX7_init_77 : decode cX7_init 77 = .ok (.aload_n 0, 1) := by decide +kernel
theorem dX7_init_78 : decode cX7_init 78 = .ok (.bipush 30, 2) := by decide +kernel
theorem dX7_init_80 : decode cX7_init 80 = .ok (.newarray .int, 2) := by decide +kernel
theorem dX7_init_82 : decode cX7_init 82 = .ok (.putfield 38, 3) := by decide +kernel
theorem dX7_init_85 : decode cX7_init 85 = .ok (.aload_n 0, 1) := by decide +kernel
theorem dX7_init_86 : decode cX7_init 86 = .ok (.bipush 30, 2) := by decide +kernel
theorem dX7_init_88 : decode cX7_init 88 = .ok (.newarray .int, 2) := by decide +kernel
theorem dX7_init_90 : decode cX7_init 90 = .ok (.putfield 41, 3) := by decide +kernel
theorem dX7_init_93 : decode cX7_init 93 = .ok (.aload_n 0, 1) := by decide +kernel
theorem dX7_init_94 : decode cX7_init 94 = .ok (.iconst 4, 1) := by decide +kernel
theorem dX7_init_95 : decode cX7_init 95 = .ok (.newarray .int, 2) := by decide +kernel
theorem dX7_init_97 : decode cX7_init 97 = .ok (.putfield 44, 3) := by decide +kernel
theorem dX7_init_100 : decode cX7_init 100 = .ok (.aload_n 0, 1) := by decide +kernel
theorem dX7_init_101 : decode cX7_init 101 = .ok (.getfield 7, 3) := by decide +kernel
theorem dX7_init_104 : decode cX7_init 104 = .ok (.iconst 1, 1) := by decide +kernel
theorem dX7_init_105 : decode cX7_init 105 = .ok (.iconst 2, 1) := by decide +kernel
theorem dX7_init_106 : decode cX7_init 106 = .ok (.iastore, 1) := by decide +kernel
theorem dX7_init_107 : decode cX7_init 107 = .ok (.return_, 1) := by decide +kernel
theorem dX7_in_0 : decode cX7_in 0 = .ok (.iload_n 0, 1) := by decide +kernel
theorem dX7_in_1 : decode cX7_in 1 = .ok (.iload_n 1, 1) := by decide +kernel
theorem dX7_in_2 : decode cX7_in 2 = .ok (.if_icmp .lt 12, 3) := by decide +kernel
theorem dX7_in_5 : decode cX7_in 5 = .ok (.iload_n 0, 1) := by decide +kernel
theorem dX7_in_6 : decode cX7_in 6 = .ok (.iload_n 2, 1) := by decide +kernel
theorem dX7_in_7 : decode cX7_in 7 = .ok (.if_icmp .gt 7, 3) := by decide +kernel
theorem dX7_in_10 : decode cX7_in 10 = .ok (.iconst 1, 1) := by decide +kernel
theorem dX7_in_11 : decode cX7_in 11 = .ok (.goto 4, 3) := by decide +kernel
theorem dX7_in_14 : decode cX7_in 14 = .ok (.iconst 0, 1) := by decide +kernel
theorem dX7_in_15 : decode cX7_in 15 = .ok (.ireturn, 1) := by decide +kernel
set_option maxRecDepth 20000 in
theorem ggX7_isStep_X7_in : GoodIn wsX7_isStep wsX7_in := goodIn_r _ [5] (by decide +kernel) (by decide +kernel)
set_option maxRecDepth 20000 in
theorem gX7_isStep_X7_in : GoodIn wsX7_isStep (va_wsS RX7 47 yX7_in wsX7_in) := goodIn_app (goodIn_of _ (by decide +kernel)) ggX7_isStep_X7_in
theorem dX7_isStep_0 : decode cX7_isStep 0 = .ok (.iload_n 1, 1) := by decide +kernel
theorem dX7_isStep_1 : decode cX7_isStep 1 = .ok (.iconst 0, 1) := by decide +kernel
theorem dX7_isStep_2 : decode cX7_isStep 2 = .ok (.aload_n 0, 1) := by decide +kernel
theorem dX7_isStep_3 : decode cX7_isStep 3 = .ok (.getfield 7, 3) := by decide +kernel
theorem dX7_isStep_6 : decode cX7_isStep 6 = .ok (.iconst 0, 1) := by decide +kernel
theorem dX7_isStep_7 : decode cX7_isStep 7 = .ok (.iaload, 1) := by decide +kernel
theorem dX7_isStep_8 : decode cX7_isStep 8 = .ok (.iconst 1, 1) := by decide +kernel
theorem dX7_isStep_9 : decode cX7_isStep 9 = .ok (.isub, 1) := by decide +kernel
theorem dX7_isStep_10 : decode cX7_isStep 10 = .ok (.invokestatic 47, 3) := by decide +kernel
theorem dX7_isStep_13 : decode cX7_isStep 13 = .ok (.ireturn, 1) := by decide +kernel
theorem dX7_code_0 : decode cX7_code 0 = .ok (.iconst 1, 1) := by decide +kernel
theorem dX7_code_1 : decode cX7_code 1 = .ok (.iload_n 0, 1) := by decide +kernel
theorem dX7_code_2 : decode cX7_code 2 = .ok (.iadd, 1) := by decide +kernel
theorem dX7_code_3 : decode cX7_code 3 = .ok (.iconst 3, 1) := by decide +kernel
theorem dX7_code_4 : decode cX7_code 4 = .ok (.iload_n 1, 1) := by decide +kernel
theorem dX7_code_5 : decode cX7_code 5 = .ok (.imul, 1) := by decide +kernel
theorem dX7_code_6 : decode cX7_code 6 = .ok (.iadd, 1) := by decide +kernel
theorem dX7_code_7 : decode cX7_code 7 = .ok (.bipush 6, 2) := by decide +kernel
theorem dX7_code_9 : decode cX7_code 9 = .ok (.iload_n 2, 1) := by decide +kernel
theorem dX7_code_10 : decode cX7_code 10 = .ok (.imul, 1) := by decide +kernel
theorem dX7_code_11 : decode cX7_code 11 = .ok (.iadd, 1) := by decide +kernel
theorem dX7_code_12 : decode cX7_code 12 = .ok (.ireturn, 1) := by decide +kernel
theorem dX7_at_0 : decode cX7_at 0 = .ok (.aload_n 0, 1) := by decide +kernel
theorem dX7_at_1 : decode cX7_at 1 = .ok (.getfield 7, 3) := by decide +kernel
theorem dX7_at_4 : decode cX7_at 4 = .ok (.iconst 2, 1) := by decide +kernel
theorem dX7_at_5 : decode cX7_at 5 = .ok (.iload_n 1, 1) := by decide +kernel
theorem dX7_at_6 : decode cX7_at 6 = .ok (.iadd, 1) := by decide +kernel
theorem dX7_at_7 : decode cX7_at 7 = .ok (.iaload, 1) := by decide +kernel
theorem dX7_at_8 : decode cX7_at 8 = .ok (.ireturn, 1) := by decide +kernel
set_option maxRecDepth 20000 in
theorem ggX7_isStroke_X7_at : GoodIn wsX7_isStroke wsX7_at := goodIn_r _ [5, 6, 7, 8, 9, 10, 11, 12, 13, 14, 15, 16, 17, 18, 19, 20, 21, 22, 23] (by decide +kernel) (by decide +kernel)
set_option maxRecDepth 20000 in
theorem gX7_isStroke_X7_at : GoodIn wsX7_isStroke (wsV RX7 51 RX7 yX7_at wsX7_at) := goodIn_app (goodIn_of _ (by decide +kernel)) ggX7_isStroke_X7_at
theorem dX7_isStroke_0 : decode cX7_isStroke 0 = .ok (.aload_n 0, 1) := by decide +kernel
theorem dX7_isStroke_1 : decode cX7_isStroke 1 = .ok (.iload_n 1, 1) := by decide +kernel
theorem dX7_isStroke_2 : decode cX7_isStroke 2 = .ok (.invokevirtual 51, 3) := by decide +kernel
theorem dX7_isStroke_5 : decode cX7_isStroke 5 = .ok (.ifCond .eq 7, 3) := by decide +kernel
theorem dX7_isStroke_8 : decode cX7_isStroke 8 = .ok (.iconst 1, 1) := by decide +kernel
theorem dX7_isStroke_9 : decode cX7_isStroke 9 = .ok (.goto 4, 3) := by decide +kernel
theorem dX7_isStroke_12 : decode cX7_isStroke 12 = .ok (.iconst 0, 1) := by decide +kernel
theorem dX7_isStroke_13 : decode cX7_isStroke 13 = .ok (.ireturn, 1) := by decide +kernel
set_option maxRecDepth 20000 in
theorem ggX7_hand_X7_at : GoodIn wsX7_hand wsX7_at := goodIn_r _ [5, 6, 7, 8, 9, 10, 11, 12, 13, 14, 15, 16, 17, 18, 19, 20, 21, 22, 23] (by decide +kernel) (by decide +kernel)
set_option maxRecDepth 20000 in
theorem gX7_hand_X7_at : GoodIn wsX7_hand (wsV RX7 51 RX7 yX7_at wsX7_at) := goodIn_app (goodIn_of _ (by decide +kernel)) ggX7_hand_X7_at
theorem dX7_hand_0 : decode cX7_hand 0 = .ok (.aload_n 0, 1) := by decide +kernel
theorem dX7_hand_1 : decode cX7_hand 1 = .ok (.iload_n 1, 1) := by decide +kernel
theorem dX7_hand_2 : decode cX7_hand 2 = .ok (.invokevirtual 51, 3) := by decide +kernel
theorem dX7_hand_5 : decode cX7_hand 5 = .ok (.iconst 1, 1) := by decide +kernel
theorem dX7_hand_6 : decode cX7_hand 6 = .ok (.isub, 1) := by decide +kernel
theorem dX7_hand_7 : decode cX7_hand 7 = .ok (.iconst 3, 1) := by decide +kernel
theorem dX7_hand_8 : decode cX7_hand 8 = .ok (.irem, 1) := by decide +kernel
theorem dX7_hand_9 : decode cX7_hand 9 = .ok (.ireturn, 1) := by decide +kernel
set_option maxRecDepth 20000 in
theorem ggX7_accent_X7_isStroke : GoodIn wsX7_accent wsX7_isStroke := goodIn_r _ [5, 6, 7, 8, 4, 9, 10, 11, 12, 13, 14, 15, 16, 17, 18, 19, 20, 21, 22, 23, 24, 25, 26, 27] (by decide +kernel) (by decide +kernel)
set_option maxRecDepth 20000 in
theorem gX7_accent_X7_isStroke : GoodIn wsX7_accent (wsV RX7 55 RX7 yX7_isStroke wsX7_isStroke) := goodIn_app (goodIn_of _ (by decide +kernel)) ggX7_accent_X7_isStroke
set_option maxRecDepth 20000 in
theorem ggX7_accent_X7_at : GoodIn wsX7_accent wsX7_at := goodIn_r _ [9, 10, 11, 12, 13, 14, 15, 16, 17, 18, 19, 20, 21, 22, 23, 24, 25, 26, 27] (by decide +kernel) (by decide +kernel)
set_option maxRecDepth 20000 in
theorem gX7_accent_X7_at : GoodIn wsX7_accent (wsV RX7 51 RX7 yX7_at wsX7_at) := goodIn_app (goodIn_of _ (by decide +kernel)) ggX7_accent_X7_at
theorem dX7_accent_0 : decode cX7_accent 0 = .ok (.aload_n 0, 1) := by decide +kernel
theorem dX7_accent_1 : decode cX7_accent 1 = .ok (.iload_n 1, 1) := by decide +kernel
theorem dX7_accent_2 : decode cX7_accent 2 = .ok (.invokevirtual 55, 3) := by decide +kernel
theorem dX7_accent_5 : decode cX7_accent 5 = .ok (.ifCond .eq 17, 3) := by decide +kernel
theorem dX7_accent_8 : decode cX7_accent 8 = .ok (.aload_n 0, 1) := by decide +kernel
theorem dX7_accent_9 : decode cX7_accent 9 = .ok (.iload_n 1, 1) := by decide +kernel
theorem dX7_accent_10 : decode cX7_accent 10 = .ok (.invokevirtual 51, 3) := by decide +kernel
theorem dX7_accent_13 : decode cX7_accent 13 = .ok (.iconst 1, 1) := by decide +kernel
theorem dX7_accent_14 : decode cX7_accent 14 = .ok (.isub, 1) := by decide +kernel
theorem dX7_accent_15 : decode cX7_accent 15 = .ok (.iconst 3, 1) := by decide +kernel
theorem dX7_accent_16 : decode cX7_accent 16 = .ok (.idiv, 1) := by decide +kernel
theorem dX7_accent_17 : decode cX7_accent 17 = .ok (.iconst 2, 1) := by decide +kernel
theorem dX7_accent_18 : decode cX7_accent 18 = .ok (.irem, 1) := by decide +kernel
theorem dX7_accent_19 : decode cX7_accent 19 = .ok (.goto 4, 3) := by decide +kernel
theorem dX7_accent_22 : decode cX7_accent 22 = .ok (.iconst 0, 1) := by decide +kernel
theorem dX7_accent_23 : decode cX7_accent 23 = .ok (.ireturn, 1) := by decide +kernel
set_option maxRecDepth 20000 in
theorem ggX7_ornament_X7_isStroke : GoodIn wsX7_ornament wsX7_isStroke := goodIn_r _ [5, 6, 7, 8, 4, 9, 10, 11, 12, 13, 14, 15, 16, 17, 18, 19, 20, 21, 22, 23, 24, 25, 26, 27] (by decide +kernel) (by decide +kernel)
set_option maxRecDepth 20000 in
theorem gX7_ornament_X7_isStroke : GoodIn wsX7_ornament (wsV RX7 55 RX7 yX7_isStroke wsX7_isStroke) := goodIn_app (goodIn_of _ (by decide +kernel)) ggX7_ornament_X7_isStroke
set_option maxRecDepth 20000 in
theorem ggX7_ornament_X7_at : GoodIn wsX7_ornament wsX7_at := goodIn_r _ [9, 10, 11, 12, 13, 14, 15, 16, 17, 18, 19, 20, 21, 22, 23, 24, 25, 26, 27] (by decide +kernel) (by decide +kernel)
set_option maxRecDepth 20000 in
theorem gX7_ornament_X7_at : GoodIn wsX7_ornament (wsV RX7 51 RX7 yX7_at wsX7_at) := goodIn_app (goodIn_of _ (by decide +kernel)) ggX7_ornament_X7_at
theorem dX7_ornament_0 : decode cX7_ornament 0 = .ok (.aload_n 0, 1) := by decide +kernel
theorem dX7_ornament_1 : decode cX7_ornament 1 = .ok (.iload_n 1, 1) := by decide +kernel
theorem dX7_ornament_2 : decode cX7_ornament 2 = .ok (.invokevirtual 55, 3) := by decide +kernel
theorem dX7_ornament_5 : decode cX7_ornament 5 = .ok (.ifCond .eq 16, 3) := by decide +kernel
theorem dX7_ornament_8 : decode cX7_ornament 8 = .ok (.aload_n 0, 1) := by decide +kernel
theorem dX7_ornament_9 : decode cX7_ornament 9 = .ok (.iload_n 1, 1) := by decide +kernel
theorem dX7_ornament_10 : decode cX7_ornament 10 = .ok (.invokevirtual 51, 3) := by decide +kernel
theorem dX7_ornament_13 : decode cX7_ornament 13 = .ok (.iconst 1, 1) := by decide +kernel
theorem dX7_ornament_14 : decode cX7_ornament 14 = .ok (.isub, 1) := by decide +kernel
theorem dX7_ornament_15 : decode cX7_ornament 15 = .ok (.bipush 6, 2) := by decide +kernel
theorem dX7_ornament_17 : decode cX7_ornament 17 = .ok (.idiv, 1) := by decide +kernel
theorem dX7_ornament_18 : decode cX7_ornament 18 = .ok (.goto 4, 3) := by decide +kernel
theorem dX7_ornament_21 : decode cX7_ornament 21 = .ok (.iconst 0, 1) := by decide +kernel
theorem dX7_ornament_22 : decode cX7_ornament 22 = .ok (.ireturn, 1) := by decide +kernel
theorem dX7_record_0 : decode cX7_record 0 = .ok (.aload_n 0, 1) := by decide +kernel
theorem dX7_record_1 : decode cX7_record 1 = .ok (.getfield 59, 3) := by decide +kernel
theorem dX7_record_4 : decode cX7_record 4 = .ok (.iconst 4, 1) := by decide +kernel
theorem dX7_record_5 : decode cX7_record 5 = .ok (.if_icmp .ne 42, 3) := by decide +kernel
theorem dX7_record_8 : decode cX7_record 8 = .ok (.iconst 0, 1) := by decide +kernel
theorem dX7_record_9 : decode cX7_record 9 = .ok (.istore_n 1, 1) := by decide +kernel
theorem dX7_record_10 : decode cX7_record 10 = .ok (.iload_n 1, 1) := by decide +kernel
theorem dX7_record_11 : decode cX7_record 11 = .ok (.bipush 102, 2) := by decide +kernel
theorem dX7_record_13 : decode cX7_record 13 = .ok (.if_icmp .ge 24, 3) := by decide +kernel
theorem dX7_record_16 : decode cX7_record 16 = .ok (.aload_n 0, 1) := by decide +kernel
theorem dX7_record_17 : decode cX7_record 17 = .ok (.getfield 13, 3) := by decide +kernel
theorem dX7_record_20 : decode cX7_record 20 = .ok (.iload_n 1, 1) := by decide +kernel
theorem dX7_record_21 : decode cX7_record 21 = .ok (.aload_n 0, 1) := by decide +kernel
theorem dX7_record_22 : decode cX7_record 22 = .ok (.getfield 13, 3) := by decide +kernel
theorem dX7_record_25 : decode cX7_record 25 = .ok (.iload_n 1, 1) := by decide +kernel
theorem dX7_record_26 : decode cX7_record 26 = .ok (.bipush 34, 2) := by decide +kernel
theorem dX7_record_28 : decode cX7_record 28 = .ok (.iadd, 1) := by decide +kernel
theorem dX7_record_29 : decode cX7_record 29 = .ok (.iaload, 1) := by decide +kernel
theorem dX7_record_30 : decode cX7_record 30 = .ok (.iastore, 1) := by decide +kernel
theorem dX7_record_31 : decode cX7_record 31 = .ok (.iinc 1 1, 3) := by decide +kernel
theorem dX7_record_34 : decode cX7_record 34 = .ok (.goto (-24), 3) := by decide +kernel
theorem dX7_record_37 : decode cX7_record 37 = .ok (.aload_n 0, 1) := by decide +kernel
theorem dX7_record_38 : decode cX7_record 38 = .ok (.dup, 1) := by decide +kernel
theorem dX7_record_39 : decode cX7_record 39 = .ok (.getfield 59, 3) := by decide +kernel
theorem dX7_record_42 : decode cX7_record 42 = .ok (.iconst 1, 1) := by decide +kernel
theorem dX7_record_43 : decode cX7_record 43 = .ok (.isub, 1) := by decide +kernel
theorem dX7_record_44 : decode cX7_record 44 = .ok (.putfield 59, 3) := by decide +kernel
theorem dX7_record_47 : decode cX7_record 47 = .ok (.iconst 0, 1) := by decide +kernel
theorem dX7_record_48 : decode cX7_record 48 = .ok (.istore_n 1, 1) := by decide +kernel
theorem dX7_record_49 : decode cX7_record 49 = .ok (.iload_n 1, 1) := by decide +kernel
theorem dX7_record_50 : decode cX7_record 50 = .ok (.bipush 34, 2) := by decide +kernel
theorem dX7_record_52 : decode cX7_record 52 = .ok (.if_icmp .ge 29, 3) := by decide +kernel
theorem dX7_record_55 : decode cX7_record 55 = .ok (.aload_n 0, 1) := by decide +kernel
theorem dX7_record_56 : decode cX7_record 56 = .ok (.getfield 13, 3) := by decide +kernel
theorem dX7_record_59 : decode cX7_record 59 = .ok (.bipush 34, 2) := by decide +kernel
theorem dX7_record_61 : decode cX7_record 61 = .ok (.aload_n 0, 1) := by decide +kernel
theorem dX7_record_62 : decode cX7_record 62 = .ok (.getfield 59, 3) := by decide +kernel
theorem dX7_record_65 : decode cX7_record 65 = .ok (.imul, 1) := by decide +kernel
theorem dX7_record_66 : decode cX7_record 66 = .ok (.iload_n 1, 1) := by decide +kernel
theorem dX7_record_67 : decode cX7_record 67 = .ok (.iadd, 1) := by decide +kernel
theorem dX7_record_68 : decode cX7_record 68 = .ok (.aload_n 0, 1) := by decide +kernel
theorem dX7_record_69 : decode cX7_record 69 = .ok (.getfield 7, 3) := by decide +kernel
theorem dX7_record_72 : decode cX7_record 72 = .ok (.iload_n 1, 1) := by decide +kernel
theorem dX7_record_73 : decode cX7_record 73 = .ok (.iaload, 1) := by decide +kernel
theorem dX7_record_74 : decode cX7_record 74 = .ok (.iastore, 1) := by decide +kernel
theorem dX7_record_75 : decode cX7_record 75 = .ok (.iinc 1 1, 3) := by decide +kernel
theorem dX7_record_78 : decode cX7_record 78 = .ok (.goto (-29), 3) := by decide +kernel
theorem dX7_record_81 : decode cX7_record 81 = .ok (.aload_n 0, 1) := by decide +kernel
theorem dX7_record_82 : decode cX7_record 82 = .ok (.dup, 1) := by decide +kernel
theorem dX7_record_83 : decode cX7_record 83 = .ok (.getfield 59, 3) := by decide +kernel
theorem dX7_record_86 : decode cX7_record 86 = .ok (.iconst 1, 1) := by decide +kernel
theorem dX7_record_87 : decode cX7_record 87 = .ok (.iadd, 1) := by decide +kernel
theorem dX7_record_88 : decode cX7_record 88 = .ok (.putfield 59, 3) := by decide +kernel
theorem dX7_record_91 : decode cX7_record 91 = .ok (.return_, 1) := by decide +kernel
set_option maxRecDepth 20000 in
theorem ggX7_blows_X7_isStroke : GoodIn wsX7_blows wsX7_isStroke := goodIn_r _ [5, 6, 7, 8, 4, 9, 10, 15, 16, 17, 18, 19, 20, 21, 22, 23, 24, 25, 26, 27, 28, 29, 30, 31] (by decide +kernel) (by decide +kernel)
set_option maxRecDepth 20000 in
theorem gX7_blows_X7_isStroke : GoodIn wsX7_blows (wsV RX7 55 RX7 yX7_isStroke wsX7_isStroke) := goodIn_app (goodIn_of _ (by decide +kernel)) ggX7_blows_X7_isStroke
set_option maxRecDepth 20000 in
theorem ggX7_blows_X7_ornament : GoodIn wsX7_blows wsX7_ornament := goodIn_r _ [14, 1, 2, 3, 4, 5, 6, 7, 8, 9, 10, 15, 16, 17, 18, 19, 20, 21, 22, 23, 24, 25, 26, 27, 28, 29, 30, 31] (by decide +kernel) (by decide +kernel)
set_option maxRecDepth 20000 in
theorem gX7_blows_X7_ornament : GoodIn wsX7_blows (wsV RX7 63 RX7 yX7_ornament wsX7_ornament) := goodIn_app (goodIn_of _ (by decide +kernel)) ggX7_blows_X7_ornament
theorem dX7_blows_0 : decode cX7_blows 0 = .ok (.aload_n 0, 1) := by decide +kernel
theorem dX7_blows_1 : decode cX7_blows 1 = .ok (.iload_n 1, 1) := by decide +kernel
theorem dX7_blows_2 : decode cX7_blows 2 = .ok (.invokevirtual 55, 3) := by decide +kernel
theorem dX7_blows_5 : decode cX7_blows 5 = .ok (.ifCond .ne 7, 3) := by decide +kernel
theorem dX7_blows_8 : decode cX7_blows 8 = .ok (.iconst 0, 1) := by decide +kernel
theorem dX7_blows_9 : decode cX7_blows 9 = .ok (.goto 29, 3) := by decide +kernel
theorem dX7_blows_12 : decode cX7_blows 12 = .ok (.aload_n 0, 1) := by decide +kernel
theorem dX7_blows_13 : decode cX7_blows 13 = .ok (.iload_n 1, 1) := by decide +kernel
theorem dX7_blows_14 : decode cX7_blows 14 = .ok (.invokevirtual 63, 3) := by decide +kernel
theorem dX7_blows_17 : decode cX7_blows 17 = .ok (.ifCond .ne 7, 3) := by decide +kernel
theorem dX7_blows_20 : decode cX7_blows 20 = .ok (.iconst 1, 1) := by decide +kernel
theorem dX7_blows_21 : decode cX7_blows 21 = .ok (.goto 17, 3) := by decide +kernel
theorem dX7_blows_24 : decode cX7_blows 24 = .ok (.aload_n 0, 1) := by decide +kernel
theorem dX7_blows_25 : decode cX7_blows 25 = .ok (.iload_n 1, 1) := by decide +kernel
theorem dX7_blows_26 : decode cX7_blows 26 = .ok (.invokevirtual 63, 3) := by decide +kernel
theorem dX7_blows_29 : decode cX7_blows 29 = .ok (.iconst 2, 1) := by decide +kernel
theorem dX7_blows_30 : decode cX7_blows 30 = .ok (.if_icmp .ne 7, 3) := by decide +kernel
theorem dX7_blows_33 : decode cX7_blows 33 = .ok (.iconst 3, 1) := by decide +kernel
theorem dX7_blows_34 : decode cX7_blows 34 = .ok (.goto 4, 3) := by decide +kernel
theorem dX7_blows_37 : decode cX7_blows 37 = .ok (.iconst 2, 1) := by decide +kernel
theorem dX7_blows_38 : decode cX7_blows 38 = .ok (.ireturn, 1) := by decide +kernel
set_option maxRecDepth 20000 in
theorem ggX7_tick_X7_ornament : GoodIn wsX7_tick wsX7_ornament := goodIn_r _ [5, 6, 7, 8, 4, 9, 10, 11, 12, 13, 14, 15, 16, 17, 18, 19, 20, 21, 22, 23, 24, 25, 26, 27, 28, 29, 30, 31] (by decide +kernel) (by decide +kernel)
set_option maxRecDepth 20000 in
theorem gX7_tick_X7_ornament : GoodIn wsX7_tick (wsV RX7 63 RX7 yX7_ornament wsX7_ornament) := goodIn_app (goodIn_of _ (by decide +kernel)) ggX7_tick_X7_ornament
theorem dX7_tick_0 : decode cX7_tick 0 = .ok (.iload_n 2, 1) := by decide +kernel
theorem dX7_tick_1 : decode cX7_tick 1 = .ok (.ifCond .ne 5, 3) := by decide +kernel
theorem dX7_tick_4 : decode cX7_tick 4 = .ok (.iconst 0, 1) := by decide +kernel
theorem dX7_tick_5 : decode cX7_tick 5 = .ok (.ireturn, 1) := by decide +kernel
theorem dX7_tick_6 : decode cX7_tick 6 = .ok (.aload_n 0, 1) := by decide +kernel
theorem dX7_tick_7 : decode cX7_tick 7 = .ok (.iload_n 1, 1) := by decide +kernel
theorem dX7_tick_8 : decode cX7_tick 8 = .ok (.invokevirtual 63, 3) := by decide +kernel
theorem dX7_tick_11 : decode cX7_tick 11 = .ok (.iconst 3, 1) := by decide +kernel
theorem dX7_tick_12 : decode cX7_tick 12 = .ok (.if_icmp .ne 7, 3) := by decide +kernel
theorem dX7_tick_15 : decode cX7_tick 15 = .ok (.iconst 2, 1) := by decide +kernel
theorem dX7_tick_16 : decode cX7_tick 16 = .ok (.goto 5, 3) := by decide +kernel
theorem dX7_tick_19 : decode cX7_tick 19 = .ok (.iload_n 2, 1) := by decide +kernel
theorem dX7_tick_20 : decode cX7_tick 20 = .ok (.ineg, 1) := by decide +kernel
theorem dX7_tick_21 : decode cX7_tick 21 = .ok (.ireturn, 1) := by decide +kernel
set_option maxRecDepth 20000 in
theorem ggX7_force_X7_accent : GoodIn wsX7_force wsX7_accent := goodIn_r _ [5, 6, 7, 8, 4, 9, 10, 11, 12, 13, 14, 15, 16, 17, 18, 19, 20, 21, 22, 23, 24, 25, 26, 27, 28, 29, 30, 31] (by decide +kernel) (by decide +kernel)
set_option maxRecDepth 20000 in
theorem gX7_force_X7_accent : GoodIn wsX7_force (wsV RX7 66 RX7 yX7_accent wsX7_accent) := goodIn_app (goodIn_of _ (by decide +kernel)) ggX7_force_X7_accent
theorem dX7_force_0 : decode cX7_force 0 = .ok (.iload_n 2, 1) := by decide +kernel
theorem dX7_force_1 : decode cX7_force 1 = .ok (.ifCond .le 7, 3) := by decide +kernel
theorem dX7_force_4 : decode cX7_force 4 = .ok (.iconst 1, 1) := by decide +kernel
theorem dX7_force_5 : decode cX7_force 5 = .ok (.goto 10, 3) := by decide +kernel
theorem dX7_force_8 : decode cX7_force 8 = .ok (.iconst 2, 1) := by decide +kernel
theorem dX7_force_9 : decode cX7_force 9 = .ok (.aload_n 0, 1) := by decide +kernel
theorem dX7_force_10 : decode cX7_force 10 = .ok (.iload_n 1, 1) := by decide +kernel
theorem dX7_force_11 : decode cX7_force 11 = .ok (.invokevirtual 66, 3) := by decide +kernel
theorem dX7_force_14 : decode cX7_force 14 = .ok (.iadd, 1) := by decide +kernel
theorem dX7_force_15 : decode cX7_force 15 = .ok (.ireturn, 1) := by decide +kernel
set_option maxRecDepth 20000 in
theorem ggX7_handOf_X7_ornament : GoodIn wsX7_handOf wsX7_ornament := goodIn_r _ [5, 6, 7, 8, 4, 9, 10, 11, 12, 13, 14, 15, 16, 17, 18, 19, 20, 21, 22, 23, 24, 25, 26, 27, 28, 29, 30, 31] (by decide +kernel) (by decide +kernel)
set_option maxRecDepth 20000 in
theorem gX7_handOf_X7_ornament : GoodIn wsX7_handOf (wsV RX7 63 RX7 yX7_ornament wsX7_ornament) := goodIn_app (goodIn_of _ (by decide +kernel)) ggX7_handOf_X7_ornament
theorem dX7_handOf_0 : decode cX7_handOf 0 = .ok (.iload_n 2, 1) := by decide +kernel
theorem dX7_handOf_1 : decode cX7_handOf 1 = .ok (.ifCond .eq 12, 3) := by decide +kernel
theorem dX7_handOf_4 : decode cX7_handOf 4 = .ok (.aload_n 0, 1) := by decide +kernel
theorem dX7_handOf_5 : decode cX7_handOf 5 = .ok (.iload_n 1, 1) := by decide +kernel
theorem dX7_handOf_6 : decode cX7_handOf 6 = .ok (.invokevirtual 63, 3) := by decide +kernel
theorem dX7_handOf_9 : decode cX7_handOf 9 = .ok (.iconst 3, 1) := by decide +kernel
theorem dX7_handOf_10 : decode cX7_handOf 10 = .ok (.if_icmp .ne 7, 3) := by decide +kernel
theorem dX7_handOf_13 : decode cX7_handOf 13 = .ok (.iload_n 3, 1) := by decide +kernel
theorem dX7_handOf_14 : decode cX7_handOf 14 = .ok (.goto 6, 3) := by decide +kernel
theorem dX7_handOf_17 : decode cX7_handOf 17 = .ok (.iconst 1, 1) := by decide +kernel
theorem dX7_handOf_18 : decode cX7_handOf 18 = .ok (.iload_n 3, 1) := by decide +kernel
theorem dX7_handOf_19 : decode cX7_handOf 19 = .ok (.isub, 1) := by decide +kernel
theorem dX7_handOf_20 : decode cX7_handOf 20 = .ok (.ireturn, 1) := by decide +kernel
set_option maxRecDepth 20000 in
theorem ggX7_areClashing_X7_blows : GoodIn wsX7_areClashing wsX7_blows := goodIn_r _ [6, 7, 8, 9, 5, 10, 11, 12, 13, 14, 1, 15, 16, 17, 18, 27, 28, 29, 30, 31, 32, 33, 34, 35, 36, 37, 38, 39, 40, 41, 42, 43] (by decide +kernel) (by decide +kernel)
set_option maxRecDepth 20000 in
theorem gX7_areClashing_X7_blows : GoodIn wsX7_areClashing (wsV RX7 69 RX7 yX7_blows wsX7_blows) := goodIn_app (goodIn_of _ (by decide +kernel)) ggX7_areClashing_X7_blows
set_option maxRecDepth 20000 in
theorem ggX7_areClashing_X7_handOf : GoodIn wsX7_areClashing wsX7_handOf := goodIn_r _ [22, 15, 16, 17, 5, 18, 7, 8, 9, 10, 11, 12, 13, 14, 1, 27, 28, 29, 30, 31, 32, 33, 34, 35, 36, 37, 38, 39, 40, 41, 42, 43] (by decide +kernel) (by decide +kernel)
set_option maxRecDepth 20000 in
theorem gX7_areClashing_X7_handOf : GoodIn wsX7_areClashing (wsV RX7 72 RX7 yX7_handOf wsX7_handOf) := goodIn_app (goodIn_of _ (by decide +kernel)) ggX7_areClashing_X7_handOf
set_option maxRecDepth 20000 in
theorem ggX7_areClashing_X7_tick : GoodIn wsX7_areClashing wsX7_tick := goodIn_r _ [26, 15, 16, 17, 5, 18, 7, 8, 9, 10, 11, 12, 13, 14, 1, 27, 28, 29, 30, 31, 32, 33, 34, 35, 36, 37, 38, 39, 40, 41, 42, 43] (by decide +kernel) (by decide +kernel)
set_option maxRecDepth 20000 in
theorem gX7_areClashing_X7_tick : GoodIn wsX7_areClashing (wsV RX7 76 RX7 yX7_tick wsX7_tick) := goodIn_app (goodIn_of _ (by decide +kernel)) ggX7_areClashing_X7_tick
theorem dX7_areClashing_0 : decode cX7_areClashing 0 = .ok (.iconst 0, 1) := by decide +kernel
theorem dX7_areClashing_1 : decode cX7_areClashing 1 = .ok (.istore 5, 2) := by decide +kernel
theorem dX7_areClashing_3 : decode cX7_areClashing 3 = .ok (.iconst 0, 1) := by decide +kernel
theorem dX7_areClashing_4 : decode cX7_areClashing 4 = .ok (.istore 6, 2) := by decide +kernel
theorem dX7_areClashing_6 : decode cX7_areClashing 6 = .ok (.iload 6, 2) := by decide +kernel
theorem dX7_areClashing_8 : decode cX7_areClashing 8 = .ok (.bipush 9, 2) := by decide +kernel
theorem dX7_areClashing_10 : decode cX7_areClashing 10 = .ok (.if_icmp .ge 127, 3) := by decide +kernel
theorem dX7_areClashing_13 : decode cX7_areClashing 13 = .ok (.iload 6, 2) := by decide +kernel
theorem dX7_areClashing_15 : decode cX7_areClashing 15 = .ok (.iconst 3, 1) := by decide +kernel
theorem dX7_areClashing_16 : decode cX7_areClashing 16 = .ok (.idiv, 1) := by decide +kernel
theorem dX7_areClashing_17 : decode cX7_areClashing 17 = .ok (.istore 7, 2) := by decide +kernel
theorem dX7_areClashing_19 : decode cX7_areClashing 19 = .ok (.iload 6, 2) := by decide +kernel
theorem dX7_areClashing_21 : decode cX7_areClashing 21 = .ok (.iconst 3, 1) := by decide +kernel
theorem dX7_areClashing_22 : decode cX7_areClashing 22 = .ok (.irem, 1) := by decide +kernel
theorem dX7_areClashing_23 : decode cX7_areClashing 23 = .ok (.istore 8, 2) := by decide +kernel
theorem dX7_areClashing_25 : decode cX7_areClashing 25 = .ok (.iload 7, 2) := by decide +kernel
theorem dX7_areClashing_27 : decode cX7_areClashing 27 = .ok (.aload_n 0, 1) := by decide +kernel
theorem dX7_areClashing_28 : decode cX7_areClashing 28 = .ok (.iload_n 1, 1) := by decide +kernel
theorem dX7_areClashing_29 : decode cX7_areClashing 29 = .ok (.invokevirtual 69, 3) := by decide +kernel
theorem dX7_areClashing_32 : decode cX7_areClashing 32 = .ok (.if_icmp .ge 37, 3) := by decide +kernel
theorem dX7_areClashing_35 : decode cX7_areClashing 35 = .ok (.iload 8, 2) := by decide +kernel
theorem dX7_areClashing_37 : decode cX7_areClashing 37 = .ok (.aload_n 0, 1) := by decide +kernel
theorem dX7_areClashing_38 : decode cX7_areClashing 38 = .ok (.iload_n 3, 1) := by decide +kernel
theorem dX7_areClashing_39 : decode cX7_areClashing 39 = .ok (.invokevirtual 69, 3) := by decide +kernel
theorem dX7_areClashing_42 : decode cX7_areClashing 42 = .ok (.if_icmp .ge 27, 3) := by decide +kernel
theorem dX7_areClashing_45 : decode cX7_areClashing 45 = .ok (.aload_n 0, 1) := by decide +kernel
theorem dX7_areClashing_46 : decode cX7_areClashing 46 = .ok (.iload_n 1, 1) := by decide +kernel
theorem dX7_areClashing_47 : decode cX7_areClashing 47 = .ok (.iload 7, 2) := by decide +kernel
theorem dX7_areClashing_49 : decode cX7_areClashing 49 = .ok (.iload_n 2, 1) := by decide +kernel
theorem dX7_areClashing_50 : decode cX7_areClashing 50 = .ok (.invokevirtual 72, 3) := by decide +kernel
theorem dX7_areClashing_53 : decode cX7_areClashing 53 = .ok (.aload_n 0, 1) := by decide +kernel
theorem dX7_areClashing_54 : decode cX7_areClashing 54 = .ok (.iload_n 3, 1) := by decide +kernel
theorem dX7_areClashing_55 : decode cX7_areClashing 55 = .ok (.iload 8, 2) := by decide +kernel
theorem dX7_areClashing_57 : decode cX7_areClashing 57 = .ok (.iload 4, 2) := by decide +kernel
theorem dX7_areClashing_59 : decode cX7_areClashing 59 = .ok (.invokevirtual 72, 3) := by decide +kernel
theorem dX7_areClashing_62 : decode cX7_areClashing 62 = .ok (.if_icmp .ne 7, 3) := by decide +kernel
theorem dX7_areClashing_65 : decode cX7_areClashing 65 = .ok (.iconst 1, 1) := by decide +kernel
theorem dX7_areClashing_66 : decode cX7_areClashing 66 = .ok (.goto 4, 3) := by decide +kernel
theorem dX7_areClashing_69 : decode cX7_areClashing 69 = .ok (.iconst 0, 1) := by decide +kernel
theorem dX7_areClashing_70 : decode cX7_areClashing 70 = .ok (.istore 9, 2) := by decide +kernel
theorem dX7_areClashing_72 : decode cX7_areClashing 72 = .ok (.iconst 4, 1) := by decide +kernel
theorem dX7_areClashing_73 : decode cX7_areClashing 73 = .ok (.aload_n 0, 1) := by decide +kernel
theorem dX7_areClashing_74 : decode cX7_areClashing 74 = .ok (.iload_n 3, 1) := by decide +kernel
theorem dX7_areClashing_75 : decode cX7_areClashing 75 = .ok (.iload 8, 2) := by decide +kernel
theorem dX7_areClashing_77 : decode cX7_areClashing 77 = .ok (.invokevirtual 76, 3) := by decide +kernel
theorem dX7_areClashing_80 : decode cX7_areClashing 80 = .ok (.iadd, 1) := by decide +kernel
theorem dX7_areClashing_81 : decode cX7_areClashing 81 = .ok (.aload_n 0, 1) := by decide +kernel
theorem dX7_areClashing_82 : decode cX7_areClashing 82 = .ok (.iload_n 1, 1) := by decide +kernel
theorem dX7_areClashing_83 : decode cX7_areClashing 83 = .ok (.iload 7, 2) := by decide +kernel
theorem dX7_areClashing_85 : decode cX7_areClashing 85 = .ok (.invokevirtual 76, 3) := by decide +kernel
theorem dX7_areClashing_88 : decode cX7_areClashing 88 = .ok (.isub, 1) := by decide +kernel
theorem dX7_areClashing_89 : decode cX7_areClashing 89 = .ok (.istore 10, 2) := by decide +kernel
theorem dX7_areClashing_91 : decode cX7_areClashing 91 = .ok (.iload 5, 2) := by decide +kernel
theorem dX7_areClashing_93 : decode cX7_areClashing 93 = .ok (.ifCond .ne 31, 3) := by decide +kernel
theorem dX7_areClashing_96 : decode cX7_areClashing 96 = .ok (.iload 9, 2) := by decide +kernel
theorem dX7_areClashing_98 : decode cX7_areClashing 98 = .ok (.ifCond .eq 30, 3) := by decide +kernel
theorem dX7_areClashing_101 : decode cX7_areClashing 101 = .ok (.iload 10, 2) := by decide +kernel
theorem dX7_areClashing_103 : decode cX7_areClashing 103 = .ok (.aload_n 0, 1) := by decide +kernel
theorem dX7_areClashing_104 : decode cX7_areClashing 104 = .ok (.getfield 7, 3) := by decide +kernel
theorem dX7_areClashing_107 : decode cX7_areClashing 107 = .ok (.iconst 1, 1) := by decide +kernel
theorem dX7_areClashing_108 : decode cX7_areClashing 108 = .ok (.iaload, 1) := by decide +kernel
theorem dX7_areClashing_109 : decode cX7_areClashing 109 = .ok (.if_icmp .ge 19, 3) := by decide +kernel
theorem dX7_areClashing_112 : decode cX7_areClashing 112 = .ok (.iload 10, 2) := by decide +kernel
theorem dX7_areClashing_114 : decode cX7_areClashing 114 = .ok (.aload_n 0, 1) := by decide +kernel
theorem dX7_areClashing_115 : decode cX7_areClashing 115 = .ok (.getfield 7, 3) := by decide +kernel
theorem dX7_areClashing_118 : decode cX7_areClashing 118 = .ok (.iconst 1, 1) := by decide +kernel
theorem dX7_areClashing_119 : decode cX7_areClashing 119 = .ok (.iaload, 1) := by decide +kernel
theorem dX7_areClashing_120 : decode cX7_areClashing 120 = .ok (.ineg, 1) := by decide +kernel
theorem dX7_areClashing_121 : decode cX7_areClashing 121 = .ok (.if_icmp .le 7, 3) := by decide +kernel
theorem dX7_areClashing_124 : decode cX7_areClashing 124 = .ok (.iconst 1, 1) := by decide +kernel
theorem dX7_areClashing_125 : decode cX7_areClashing 125 = .ok (.goto 4, 3) := by decide +kernel
theorem dX7_areClashing_128 : decode cX7_areClashing 128 = .ok (.iconst 0, 1) := by decide +kernel
theorem dX7_areClashing_129 : decode cX7_areClashing 129 = .ok (.istore 5, 2) := by decide +kernel
theorem dX7_areClashing_131 : decode cX7_areClashing 131 = .ok (.iinc 6 1, 3) := by decide +kernel
theorem dX7_areClashing_134 : decode cX7_areClashing 134 = .ok (.goto (-128), 3) := by decide +kernel
theorem dX7_areClashing_137 : decode cX7_areClashing 137 = .ok (.iload 5, 2) := by decide +kernel
theorem dX7_areClashing_139 : decode cX7_areClashing 139 = .ok (.ireturn, 1) := by decide +kernel
set_option maxRecDepth 20000 in
theorem ggX7_allows_X7_hand : GoodIn wsX7_allows wsX7_hand := goodIn_r _ [5, 6, 7, 8, 4, 9, 10, 11, 12, 13, 14, 15, 16, 17, 18, 19, 20, 21, 22, 23, 24, 25, 26, 27] (by decide +kernel) (by decide +kernel)
set_option maxRecDepth 20000 in
theorem gX7_allows_X7_hand : GoodIn wsX7_allows (wsV RX7 80 RX7 yX7_hand wsX7_hand) := goodIn_app (goodIn_of _ (by decide +kernel)) ggX7_allows_X7_hand
theorem dX7_allows_0 : decode cX7_allows 0 = .ok (.aload_n 0, 1) := by decide +kernel
theorem dX7_allows_1 : decode cX7_allows 1 = .ok (.iload_n 1, 1) := by decide +kernel
theorem dX7_allows_2 : decode cX7_allows 2 = .ok (.invokevirtual 80, 3) := by decide +kernel
theorem dX7_allows_5 : decode cX7_allows 5 = .ok (.iconst 2, 1) := by decide +kernel
theorem dX7_allows_6 : decode cX7_allows 6 = .ok (.if_icmp .eq 12, 3) := by decide +kernel
theorem dX7_allows_9 : decode cX7_allows 9 = .ok (.aload_n 0, 1) := by decide +kernel
theorem dX7_allows_10 : decode cX7_allows 10 = .ok (.iload_n 1, 1) := by decide +kernel
theorem dX7_allows_11 : decode cX7_allows 11 = .ok (.invokevirtual 80, 3) := by decide +kernel
theorem dX7_allows_14 : decode cX7_allows 14 = .ok (.iload_n 2, 1) := by decide +kernel
theorem dX7_allows_15 : decode cX7_allows 15 = .ok (.if_icmp .ne 7, 3) := by decide +kernel
theorem dX7_allows_18 : decode cX7_allows 18 = .ok (.iconst 1, 1) := by decide +kernel
theorem dX7_allows_19 : decode cX7_allows 19 = .ok (.goto 4, 3) := by decide +kernel
theorem dX7_allows_22 : decode cX7_allows 22 = .ok (.iconst 0, 1) := by decide +kernel
theorem dX7_allows_23 : decode cX7_allows 23 = .ok (.ireturn, 1) := by decide +kernel
set_option maxRecDepth 20000 in
theorem ggX7_can_X7_isStroke : GoodIn wsX7_can wsX7_isStroke := goodIn_r _ [5, 6, 7, 8, 4, 9, 10, 39, 40, 41, 42, 43, 44, 45, 46, 47, 48, 49, 50, 51, 52, 53, 54, 55] (by decide +kernel) (by decide +kernel)
set_option maxRecDepth 20000 in
theorem gX7_can_X7_isStroke : GoodIn wsX7_can (wsV RX7 55 RX7 yX7_isStroke wsX7_isStroke) := goodIn_app (goodIn_of _ (by decide +kernel)) ggX7_can_X7_isStroke
set_option maxRecDepth 20000 in
theorem ggX7_can_X7_allows : GoodIn wsX7_can wsX7_allows := goodIn_r _ [14, 15, 16, 17, 4, 18, 6, 7, 8, 9, 10, 39, 40, 41, 42, 43, 44, 45, 46, 47, 48, 49, 50, 51, 52, 53, 54, 55] (by decide +kernel) (by decide +kernel)
set_option maxRecDepth 20000 in
theorem gX7_can_X7_allows : GoodIn wsX7_can (wsV RX7 83 RX7 yX7_allows wsX7_allows) := goodIn_app (goodIn_of _ (by decide +kernel)) ggX7_can_X7_allows
set_option maxRecDepth 20000 in
theorem ggX7_can_X7_areClashing : GoodIn wsX7_can wsX7_areClashing := goodIn_r _ [22, 10, 23, 24, 25, 4, 26, 1, 2, 3, 5, 6, 7, 8, 9, 27, 28, 29, 30, 31, 32, 33, 34, 35, 36, 37, 38, 39, 40, 41, 42, 43, 44, 45, 46, 47, 48, 49, 50, 51, 52, 53, 54, 55] (by decide +kernel) (by decide +kernel)
set_option maxRecDepth 20000 in
theorem gX7_can_X7_areClashing : GoodIn wsX7_can (wsV RX7 87 RX7 yX7_areClashing wsX7_areClashing) := goodIn_app (goodIn_of _ (by decide +kernel)) ggX7_can_X7_areClashing
theorem dX7_can_0 : decode cX7_can 0 = .ok (.iload_n 1, 1) := by decide +kernel
theorem dX7_can_1 : decode cX7_can 1 = .ok (.ifCond .le 22, 3) := by decide +kernel
theorem dX7_can_4 : decode cX7_can 4 = .ok (.aload_n 0, 1) := by decide +kernel
theorem dX7_can_5 : decode cX7_can 5 = .ok (.iload_n 1, 1) := by decide +kernel
theorem dX7_can_6 : decode cX7_can 6 = .ok (.iconst 1, 1) := by decide +kernel
theorem dX7_can_7 : decode cX7_can 7 = .ok (.isub, 1) := by decide +kernel
theorem dX7_can_8 : decode cX7_can 8 = .ok (.invokevirtual 55, 3) := by decide +kernel
theorem dX7_can_11 : decode cX7_can 11 = .ok (.ifCond .eq 12, 3) := by decide +kernel
theorem dX7_can_14 : decode cX7_can 14 = .ok (.iload_n 2, 1) := by decide +kernel
theorem dX7_can_15 : decode cX7_can 15 = .ok (.iconst 2, 1) := by decide +kernel
theorem dX7_can_16 : decode cX7_can 16 = .ok (.if_icmp .ge 7, 3) := by decide +kernel
theorem dX7_can_19 : decode cX7_can 19 = .ok (.iconst 1, 1) := by decide +kernel
theorem dX7_can_20 : decode cX7_can 20 = .ok (.goto 4, 3) := by decide +kernel
theorem dX7_can_23 : decode cX7_can 23 = .ok (.iconst 0, 1) := by decide +kernel
theorem dX7_can_24 : decode cX7_can 24 = .ok (.istore 4, 2) := by decide +kernel
theorem dX7_can_26 : decode cX7_can 26 = .ok (.aload_n 0, 1) := by decide +kernel
theorem dX7_can_27 : decode cX7_can 27 = .ok (.iload_n 1, 1) := by decide +kernel
theorem dX7_can_28 : decode cX7_can 28 = .ok (.iload_n 3, 1) := by decide +kernel
theorem dX7_can_29 : decode cX7_can 29 = .ok (.invokevirtual 83, 3) := by decide +kernel
theorem dX7_can_32 : decode cX7_can 32 = .ok (.ifCond .eq 25, 3) := by decide +kernel
theorem dX7_can_35 : decode cX7_can 35 = .ok (.iload 4, 2) := by decide +kernel
theorem dX7_can_37 : decode cX7_can 37 = .ok (.ifCond .eq 16, 3) := by decide +kernel
theorem dX7_can_40 : decode cX7_can 40 = .ok (.aload_n 0, 1) := by decide +kernel
theorem dX7_can_41 : decode cX7_can 41 = .ok (.iload_n 1, 1) := by decide +kernel
theorem dX7_can_42 : decode cX7_can 42 = .ok (.iconst 1, 1) := by decide +kernel
theorem dX7_can_43 : decode cX7_can 43 = .ok (.isub, 1) := by decide +kernel
theorem dX7_can_44 : decode cX7_can 44 = .ok (.iload_n 2, 1) := by decide +kernel
theorem dX7_can_45 : decode cX7_can 45 = .ok (.iload_n 1, 1) := by decide +kernel
theorem dX7_can_46 : decode cX7_can 46 = .ok (.iload_n 3, 1) := by decide +kernel
theorem dX7_can_47 : decode cX7_can 47 = .ok (.invokevirtual 87, 3) := by decide +kernel
theorem dX7_can_50 : decode cX7_can 50 = .ok (.ifCond .ne 7, 3) := by decide +kernel
theorem dX7_can_53 : decode cX7_can 53 = .ok (.iconst 1, 1) := by decide +kernel
theorem dX7_can_54 : decode cX7_can 54 = .ok (.goto 4, 3) := by decide +kernel
theorem dX7_can_57 : decode cX7_can 57 = .ok (.iconst 0, 1) := by decide +kernel
theorem dX7_can_58 : decode cX7_can 58 = .ok (.ireturn, 1) := by decide +kernel
set_option maxRecDepth 20000 in
theorem ggX7_layFrom_X7_isStroke : GoodIn wsX7_layFrom wsX7_isStroke := goodIn_r _ [7, 8, 9, 10, 6, 11, 12, 45, 46, 47, 48, 49, 50, 51, 52, 53, 54, 55, 56, 57, 58, 59, 60, 61] (by decide +kernel) (by decide +kernel)
set_option maxRecDepth 20000 in
theorem gX7_layFrom_X7_isStroke : GoodIn wsX7_layFrom (wsV RX7 55 RX7 yX7_isStroke wsX7_isStroke) := goodIn_app (goodIn_of _ (by decide +kernel)) ggX7_layFrom_X7_isStroke
set_option maxRecDepth 20000 in
theorem ggX7_layFrom_X7_can : GoodIn wsX7_layFrom wsX7_can := goodIn_r _ [16, 3, 4, 5, 6, 7, 8, 9, 10, 11, 12, 17, 18, 19, 20, 21, 22, 23, 24, 25, 26, 27, 28, 29, 30, 31, 32, 33, 34, 35, 36, 37, 38, 39, 40, 41, 42, 43, 44, 45, 46, 47, 48, 49, 50, 51, 52, 53, 54, 55, 56, 57, 58, 59, 60, 61] (by decide +kernel) (by decide +kernel)
set_option maxRecDepth 20000 in
theorem gX7_layFrom_X7_can : GoodIn wsX7_layFrom (wsV RX7 91 RX7 yX7_can wsX7_can) := goodIn_app (goodIn_of _ (by decide +kernel)) ggX7_layFrom_X7_can
theorem dX7_layFrom_0 : decode cX7_layFrom 0 = .ok (.iconst 3, 1) := by decide +kernel
theorem dX7_layFrom_1 : decode cX7_layFrom 1 = .ok (.iload_n 1, 1) := by decide +kernel
theorem dX7_layFrom_2 : decode cX7_layFrom 2 = .ok (.imul, 1) := by decide +kernel
theorem dX7_layFrom_3 : decode cX7_layFrom 3 = .ok (.iload_n 2, 1) := by decide +kernel
theorem dX7_layFrom_4 : decode cX7_layFrom 4 = .ok (.iadd, 1) := by decide +kernel
theorem dX7_layFrom_5 : decode cX7_layFrom 5 = .ok (.istore_n 3, 1) := by decide +kernel
theorem dX7_layFrom_6 : decode cX7_layFrom 6 = .ok (.aload_n 0, 1) := by decide +kernel
theorem dX7_layFrom_7 : decode cX7_layFrom 7 = .ok (.getfield 22, 3) := by decide +kernel
theorem dX7_layFrom_10 : decode cX7_layFrom 10 = .ok (.iload_n 3, 1) := by decide +kernel
theorem dX7_layFrom_11 : decode cX7_layFrom 11 = .ok (.sipush 1000, 3) := by decide +kernel
theorem dX7_layFrom_14 : decode cX7_layFrom 14 = .ok (.iastore, 1) := by decide +kernel
theorem dX7_layFrom_15 : decode cX7_layFrom 15 = .ok (.aload_n 0, 1) := by decide +kernel
theorem dX7_layFrom_16 : decode cX7_layFrom 16 = .ok (.getfield 25, 3) := by decide +kernel
theorem dX7_layFrom_19 : decode cX7_layFrom 19 = .ok (.iload_n 3, 1) := by decide +kernel
theorem dX7_layFrom_20 : decode cX7_layFrom 20 = .ok (.lconst 0, 1) := by decide +kernel
theorem dX7_layFrom_21 : decode cX7_layFrom 21 = .ok (.lastore, 1) := by decide +kernel
theorem dX7_layFrom_22 : decode cX7_layFrom 22 = .ok (.aload_n 0, 1) := by decide +kernel
theorem dX7_layFrom_23 : decode cX7_layFrom 23 = .ok (.iload_n 1, 1) := by decide +kernel
theorem dX7_layFrom_24 : decode cX7_layFrom 24 = .ok (.invokevirtual 55, 3) := by decide +kernel
theorem dX7_layFrom_27 : decode cX7_layFrom 27 = .ok (.ifCond .ne 32, 3) := by decide +kernel
theorem dX7_layFrom_30 : decode cX7_layFrom 30 = .ok (.aload_n 0, 1) := by decide +kernel
theorem dX7_layFrom_31 : decode cX7_layFrom 31 = .ok (.getfield 22, 3) := by decide +kernel
theorem dX7_layFrom_34 : decode cX7_layFrom 34 = .ok (.iload_n 3, 1) := by decide +kernel
theorem dX7_layFrom_35 : decode cX7_layFrom 35 = .ok (.aload_n 0, 1) := by decide +kernel
theorem dX7_layFrom_36 : decode cX7_layFrom 36 = .ok (.getfield 22, 3) := by decide +kernel
theorem dX7_layFrom_39 : decode cX7_layFrom 39 = .ok (.iload_n 3, 1) := by decide +kernel
theorem dX7_layFrom_40 : decode cX7_layFrom 40 = .ok (.iconst 3, 1) := by decide +kernel
theorem dX7_layFrom_41 : decode cX7_layFrom 41 = .ok (.iadd, 1) := by decide +kernel
theorem dX7_layFrom_42 : decode cX7_layFrom 42 = .ok (.iaload, 1) := by decide +kernel
theorem dX7_layFrom_43 : decode cX7_layFrom 43 = .ok (.iastore, 1) := by decide +kernel
theorem dX7_layFrom_44 : decode cX7_layFrom 44 = .ok (.aload_n 0, 1) := by decide +kernel
theorem dX7_layFrom_45 : decode cX7_layFrom 45 = .ok (.getfield 25, 3) := by decide +kernel
theorem dX7_layFrom_48 : decode cX7_layFrom 48 = .ok (.iload_n 3, 1) := by decide +kernel
theorem dX7_layFrom_49 : decode cX7_layFrom 49 = .ok (.aload_n 0, 1) := by decide +kernel
theorem dX7_layFrom_50 : decode cX7_layFrom 50 = .ok (.getfield 25, 3) := by decide +kernel
theorem dX7_layFrom_53 : decode cX7_layFrom 53 = .ok (.iload_n 3, 1) := by decide +kernel
theorem dX7_layFrom_54 : decode cX7_layFrom 54 = .ok (.iconst 3, 1) := by decide +kernel
theorem dX7_layFrom_55 : decode cX7_layFrom 55 = .ok (.iadd, 1) := by decide +kernel
theorem dX7_layFrom_56 : decode cX7_layFrom 56 = .ok (.laload, 1) := by decide +kernel
theorem dX7_layFrom_57 : decode cX7_layFrom 57 = .ok (.lastore, 1) := by decide +kernel
theorem dX7_layFrom_58 : decode cX7_layFrom 58 = .ok (.return_, 1) := by decide +kernel
theorem dX7_layFrom_59 : decode cX7_layFrom 59 = .ok (.iconst 0, 1) := by decide +kernel
theorem dX7_layFrom_60 : decode cX7_layFrom 60 = .ok (.istore 4, 2) := by decide +kernel
theorem dX7_layFrom_62 : decode cX7_layFrom 62 = .ok (.iload 4, 2) := by decide +kernel
theorem dX7_layFrom_64 : decode cX7_layFrom 64 = .ok (.iconst 2, 1) := by decide +kernel
theorem dX7_layFrom_65 : decode cX7_layFrom 65 = .ok (.if_icmp .ge 97, 3) := by decide +kernel
theorem dX7_layFrom_68 : decode cX7_layFrom 68 = .ok (.aload_n 0, 1) := by decide +kernel
theorem dX7_layFrom_69 : decode cX7_layFrom 69 = .ok (.iload_n 1, 1) := by decide +kernel
theorem dX7_layFrom_70 : decode cX7_layFrom 70 = .ok (.iload_n 2, 1) := by decide +kernel
theorem dX7_layFrom_71 : decode cX7_layFrom 71 = .ok (.iload 4, 2) := by decide +kernel
theorem dX7_layFrom_73 : decode cX7_layFrom 73 = .ok (.invokevirtual 91, 3) := by decide +kernel
theorem dX7_layFrom_76 : decode cX7_layFrom 76 = .ok (.ifCond .eq 80, 3) := by decide +kernel
theorem dX7_layFrom_79 : decode cX7_layFrom 79 = .ok (.aload_n 0, 1) := by decide +kernel
theorem dX7_layFrom_80 : decode cX7_layFrom 80 = .ok (.getfield 22, 3) := by decide +kernel
theorem dX7_layFrom_83 : decode cX7_layFrom 83 = .ok (.iconst 3, 1) := by decide +kernel
theorem dX7_layFrom_84 : decode cX7_layFrom 84 = .ok (.iload_n 1, 1) := by decide +kernel
theorem dX7_layFrom_85 : decode cX7_layFrom 85 = .ok (.imul, 1) := by decide +kernel
theorem dX7_layFrom_86 : decode cX7_layFrom 86 = .ok (.iconst 3, 1) := by decide +kernel
theorem dX7_layFrom_87 : decode cX7_layFrom 87 = .ok (.iadd, 1) := by decide +kernel
theorem dX7_layFrom_88 : decode cX7_layFrom 88 = .ok (.iload 4, 2) := by decide +kernel
theorem dX7_layFrom_90 : decode cX7_layFrom 90 = .ok (.iadd, 1) := by decide +kernel
theorem dX7_layFrom_91 : decode cX7_layFrom 91 = .ok (.iaload, 1) := by decide +kernel
theorem dX7_layFrom_92 : decode cX7_layFrom 92 = .ok (.iload 4, 2) := by decide +kernel
theorem dX7_layFrom_94 : decode cX7_layFrom 94 = .ok (.iload_n 2, 1) := by decide +kernel
theorem dX7_layFrom_95 : decode cX7_layFrom 95 = .ok (.if_icmp .ne 7, 3) := by decide +kernel
theorem dX7_layFrom_98 : decode cX7_layFrom 98 = .ok (.iconst 1, 1) := by decide +kernel
theorem dX7_layFrom_99 : decode cX7_layFrom 99 = .ok (.goto 4, 3) := by decide +kernel
theorem dX7_layFrom_102 : decode cX7_layFrom 102 = .ok (.iconst 0, 1) := by decide +kernel
theorem dX7_layFrom_103 : decode cX7_layFrom 103 = .ok (.iadd, 1) := by decide +kernel
theorem dX7_layFrom_104 : decode cX7_layFrom 104 = .ok (.istore 5, 2) := by decide +kernel
theorem dX7_layFrom_106 : decode cX7_layFrom 106 = .ok (.aload_n 0, 1) := by decide +kernel
theorem dX7_layFrom_107 : decode cX7_layFrom 107 = .ok (.getfield 22, 3) := by decide +kernel
theorem dX7_layFrom_110 : decode cX7_layFrom 110 = .ok (.iload_n 3, 1) := by decide +kernel
theorem dX7_layFrom_111 : decode cX7_layFrom 111 = .ok (.iload 5, 2) := by decide +kernel
theorem dX7_layFrom_113 : decode cX7_layFrom 113 = .ok (.aload_n 0, 1) := by decide +kernel
theorem dX7_layFrom_114 : decode cX7_layFrom 114 = .ok (.getfield 22, 3) := by decide +kernel
theorem dX7_layFrom_117 : decode cX7_layFrom 117 = .ok (.iload_n 3, 1) := by decide +kernel
theorem dX7_layFrom_118 : decode cX7_layFrom 118 = .ok (.iaload, 1) := by decide +kernel
theorem dX7_layFrom_119 : decode cX7_layFrom 119 = .ok (.if_icmp .ge 8, 3) := by decide +kernel
theorem dX7_layFrom_122 : decode cX7_layFrom 122 = .ok (.iload 5, 2) := by decide +kernel
theorem dX7_layFrom_124 : decode cX7_layFrom 124 = .ok (.goto 9, 3) := by decide +kernel
theorem dX7_layFrom_127 : decode cX7_layFrom 127 = .ok (.aload_n 0, 1) := by decide +kernel
theorem dX7_layFrom_128 : decode cX7_layFrom 128 = .ok (.getfield 22, 3) := by decide +kernel
theorem dX7_layFrom_131 : decode cX7_layFrom 131 = .ok (.iload_n 3, 1) := by decide +kernel
theorem dX7_layFrom_132 : decode cX7_layFrom 132 = .ok (.iaload, 1) := by decide +kernel
theorem dX7_layFrom_133 : decode cX7_layFrom 133 = .ok (.iastore, 1) := by decide +kernel
theorem dX7_layFrom_134 : decode cX7_layFrom 134 = .ok (.aload_n 0, 1) := by decide +kernel
theorem dX7_layFrom_135 : decode cX7_layFrom 135 = .ok (.getfield 25, 3) := by decide +kernel
theorem dX7_layFrom_138 : decode cX7_layFrom 138 = .ok (.iload_n 3, 1) := by decide +kernel
theorem dX7_layFrom_139 : decode cX7_layFrom 139 = .ok (.dup2, 1) := by decide +kernel
theorem dX7_layFrom_140 : decode cX7_layFrom 140 = .ok (.laload, 1) := by decide +kernel
theorem dX7_layFrom_141 : decode cX7_layFrom 141 = .ok (.aload_n 0, 1) := by decide +kernel
theorem dX7_layFrom_142 : decode cX7_layFrom 142 = .ok (.getfield 25, 3) := by decide +kernel
theorem dX7_layFrom_145 : decode cX7_layFrom 145 = .ok (.iconst 3, 1) := by decide +kernel
theorem dX7_layFrom_146 : decode cX7_layFrom 146 = .ok (.iload_n 1, 1) := by decide +kernel
theorem dX7_layFrom_147 : decode cX7_layFrom 147 = .ok (.imul, 1) := by decide +kernel
theorem dX7_layFrom_148 : decode cX7_layFrom 148 = .ok (.iconst 3, 1) := by decide +kernel
theorem dX7_layFrom_149 : decode cX7_layFrom 149 = .ok (.iadd, 1) := by decide +kernel
theorem dX7_layFrom_150 : decode cX7_layFrom 150 = .ok (.iload 4, 2) := by decide +kernel
theorem dX7_layFrom_152 : decode cX7_layFrom 152 = .ok (.iadd, 1) := by decide +kernel
theorem dX7_layFrom_153 : decode cX7_layFrom 153 = .ok (.laload, 1) := by decide +kernel
theorem dX7_layFrom_154 : decode cX7_layFrom 154 = .ok (.ladd, 1) := by decide +kernel
theorem dX7_layFrom_155 : decode cX7_layFrom 155 = .ok (.lastore, 1) := by decide +kernel
theorem dX7_layFrom_156 : decode cX7_layFrom 156 = .ok (.iinc 4 1, 3) := by decide +kernel
theorem dX7_layFrom_159 : decode cX7_layFrom 159 = .ok (.goto (-97), 3) := by decide +kernel
theorem dX7_layFrom_162 : decode cX7_layFrom 162 = .ok (.return_, 1) := by decide +kernel
set_option maxRecDepth 20000 in
theorem ggX7_lay_X7_areClashing : GoodIn wsX7_lay wsX7_areClashing := goodIn_r _ [8, 1, 9, 10, 11, 7, 12, 13, 14, 15, 16, 17, 18, 19, 20, 21, 22, 23, 24, 25, 26, 27, 28, 29, 30, 31, 32, 49, 50, 51, 52, 53, 54, 55, 56, 57, 58, 59, 60, 61, 62, 63, 64, 65] (by decide +kernel) (by decide +kernel)
set_option maxRecDepth 20000 in
theorem gX7_lay_X7_areClashing : GoodIn wsX7_lay (wsV RX7 87 RX7 yX7_areClashing wsX7_areClashing) := goodIn_app (goodIn_of _ (by decide +kernel)) ggX7_lay_X7_areClashing
set_option maxRecDepth 20000 in
theorem ggX7_lay_X7_layFrom : GoodIn wsX7_lay wsX7_layFrom := goodIn_r _ [36, 2, 3, 13, 14, 15, 7, 16, 17, 18, 19, 20, 1, 37, 38, 39, 40, 41, 42, 43, 44, 45, 46, 47, 48, 4, 5, 6, 8, 9, 10, 11, 12, 21, 22, 23, 24, 25, 26, 27, 28, 29, 30, 31, 32, 49, 50, 51, 52, 53, 54, 55, 56, 57, 58, 59, 60, 61, 62, 63, 64, 65] (by decide +kernel) (by decide +kernel)
set_option maxRecDepth 20000 in
theorem gX7_lay_X7_layFrom : GoodIn wsX7_lay (wsV RX7 94 RX7 yX7_layFrom wsX7_layFrom) := goodIn_app (goodIn_of _ (by decide +kernel)) ggX7_lay_X7_layFrom
theorem dX7_lay_0 : decode cX7_lay 0 = .ok (.aload_n 0, 1) := by decide +kernel
theorem dX7_lay_1 : decode cX7_lay 1 = .ok (.getfield 7, 3) := by decide +kernel
theorem dX7_lay_4 : decode cX7_lay 4 = .ok (.iconst 0, 1) := by decide +kernel
theorem dX7_lay_5 : decode cX7_lay 5 = .ok (.iaload, 1) := by decide +kernel
theorem dX7_lay_6 : decode cX7_lay 6 = .ok (.istore_n 2, 1) := by decide +kernel
theorem dX7_lay_7 : decode cX7_lay 7 = .ok (.iconst 0, 1) := by decide +kernel
theorem dX7_lay_8 : decode cX7_lay 8 = .ok (.istore_n 3, 1) := by decide +kernel
theorem dX7_lay_9 : decode cX7_lay 9 = .ok (.iload_n 3, 1) := by decide +kernel
theorem dX7_lay_10 : decode cX7_lay 10 = .ok (.iconst 3, 1) := by decide +kernel
theorem dX7_lay_11 : decode cX7_lay 11 = .ok (.if_icmp .ge 82, 3) := by decide +kernel
theorem dX7_lay_14 : decode cX7_lay 14 = .ok (.iload_n 1, 1) := by decide +kernel
theorem dX7_lay_15 : decode cX7_lay 15 = .ok (.bipush (-4), 2) := by decide +kernel
theorem dX7_lay_17 : decode cX7_lay 17 = .ok (.if_icmp .eq 25, 3) := by decide +kernel
theorem dX7_lay_20 : decode cX7_lay 20 = .ok (.iload_n 3, 1) := by decide +kernel
theorem dX7_lay_21 : decode cX7_lay 21 = .ok (.iconst 2, 1) := by decide +kernel
theorem dX7_lay_22 : decode cX7_lay 22 = .ok (.if_icmp .ge 20, 3) := by decide +kernel
theorem dX7_lay_25 : decode cX7_lay 25 = .ok (.aload_n 0, 1) := by decide +kernel
theorem dX7_lay_26 : decode cX7_lay 26 = .ok (.iload_n 2, 1) := by decide +kernel
theorem dX7_lay_27 : decode cX7_lay 27 = .ok (.iconst 1, 1) := by decide +kernel
theorem dX7_lay_28 : decode cX7_lay 28 = .ok (.isub, 1) := by decide +kernel
theorem dX7_lay_29 : decode cX7_lay 29 = .ok (.iload_n 3, 1) := by decide +kernel
theorem dX7_lay_30 : decode cX7_lay 30 = .ok (.iconst 0, 1) := by decide +kernel
theorem dX7_lay_31 : decode cX7_lay 31 = .ok (.iload_n 1, 1) := by decide +kernel
theorem dX7_lay_32 : decode cX7_lay 32 = .ok (.invokevirtual 87, 3) := by decide +kernel
theorem dX7_lay_35 : decode cX7_lay 35 = .ok (.ifCond .eq 7, 3) := by decide +kernel
theorem dX7_lay_38 : decode cX7_lay 38 = .ok (.iconst 1, 1) := by decide +kernel
theorem dX7_lay_39 : decode cX7_lay 39 = .ok (.goto 4, 3) := by decide +kernel
theorem dX7_lay_42 : decode cX7_lay 42 = .ok (.iconst 0, 1) := by decide +kernel
theorem dX7_lay_43 : decode cX7_lay 43 = .ok (.istore 4, 2) := by decide +kernel
theorem dX7_lay_45 : decode cX7_lay 45 = .ok (.aload_n 0, 1) := by decide +kernel
theorem dX7_lay_46 : decode cX7_lay 46 = .ok (.getfield 22, 3) := by decide +kernel
theorem dX7_lay_49 : decode cX7_lay 49 = .ok (.iconst 3, 1) := by decide +kernel
theorem dX7_lay_50 : decode cX7_lay 50 = .ok (.iload_n 2, 1) := by decide +kernel
theorem dX7_lay_51 : decode cX7_lay 51 = .ok (.imul, 1) := by decide +kernel
theorem dX7_lay_52 : decode cX7_lay 52 = .ok (.iload_n 3, 1) := by decide +kernel
theorem dX7_lay_53 : decode cX7_lay 53 = .ok (.iadd, 1) := by decide +kernel
theorem dX7_lay_54 : decode cX7_lay 54 = .ok (.iload 4, 2) := by decide +kernel
theorem dX7_lay_56 : decode cX7_lay 56 = .ok (.ifCond .eq 9, 3) := by decide +kernel
theorem dX7_lay_59 : decode cX7_lay 59 = .ok (.sipush 1000, 3) := by decide +kernel
theorem dX7_lay_62 : decode cX7_lay 62 = .ok (.goto 4, 3) := by decide +kernel
theorem dX7_lay_65 : decode cX7_lay 65 = .ok (.iconst 0, 1) := by decide +kernel
theorem dX7_lay_66 : decode cX7_lay 66 = .ok (.iastore, 1) := by decide +kernel
theorem dX7_lay_67 : decode cX7_lay 67 = .ok (.aload_n 0, 1) := by decide +kernel
theorem dX7_lay_68 : decode cX7_lay 68 = .ok (.getfield 25, 3) := by decide +kernel
theorem dX7_lay_71 : decode cX7_lay 71 = .ok (.iconst 3, 1) := by decide +kernel
theorem dX7_lay_72 : decode cX7_lay 72 = .ok (.iload_n 2, 1) := by decide +kernel
theorem dX7_lay_73 : decode cX7_lay 73 = .ok (.imul, 1) := by decide +kernel
theorem dX7_lay_74 : decode cX7_lay 74 = .ok (.iload_n 3, 1) := by decide +kernel
theorem dX7_lay_75 : decode cX7_lay 75 = .ok (.iadd, 1) := by decide +kernel
theorem dX7_lay_76 : decode cX7_lay 76 = .ok (.iload 4, 2) := by decide +kernel
theorem dX7_lay_78 : decode cX7_lay 78 = .ok (.ifCond .eq 7, 3) := by decide +kernel
theorem dX7_lay_81 : decode cX7_lay 81 = .ok (.lconst 0, 1) := by decide +kernel
theorem dX7_lay_82 : decode cX7_lay 82 = .ok (.goto 4, 3) := by decide +kernel
theorem dX7_lay_85 : decode cX7_lay 85 = .ok (.lconst 1, 1) := by decide +kernel
theorem dX7_lay_86 : decode cX7_lay 86 = .ok (.lastore, 1) := by decide +kernel
theorem dX7_lay_87 : decode cX7_lay 87 = .ok (.iinc 3 1, 3) := by decide +kernel
theorem dX7_lay_90 : decode cX7_lay 90 = .ok (.goto (-81), 3) := by decide +kernel
theorem dX7_lay_93 : decode cX7_lay 93 = .ok (.iload_n 2, 1) := by decide +kernel
theorem dX7_lay_94 : decode cX7_lay 94 = .ok (.iconst 1, 1) := by decide +kernel
theorem dX7_lay_95 : decode cX7_lay 95 = .ok (.isub, 1) := by decide +kernel
theorem dX7_lay_96 : decode cX7_lay 96 = .ok (.istore_n 3, 1) := by decide +kernel
theorem dX7_lay_97 : decode cX7_lay 97 = .ok (.iload_n 3, 1) := by decide +kernel
theorem dX7_lay_98 : decode cX7_lay 98 = .ok (.ifCond .lt 31, 3) := by decide +kernel
theorem dX7_lay_101 : decode cX7_lay 101 = .ok (.iconst 0, 1) := by decide +kernel
theorem dX7_lay_102 : decode cX7_lay 102 = .ok (.istore 4, 2) := by decide +kernel
theorem dX7_lay_104 : decode cX7_lay 104 = .ok (.iload 4, 2) := by decide +kernel
theorem dX7_lay_106 : decode cX7_lay 106 = .ok (.iconst 3, 1) := by decide +kernel
theorem dX7_lay_107 : decode cX7_lay 107 = .ok (.if_icmp .ge 16, 3) := by decide +kernel
theorem dX7_lay_110 : decode cX7_lay 110 = .ok (.aload_n 0, 1) := by decide +kernel
theorem dX7_lay_111 : decode cX7_lay 111 = .ok (.iload_n 3, 1) := by decide +kernel
theorem dX7_lay_112 : decode cX7_lay 112 = .ok (.iload 4, 2) := by decide +kernel
theorem dX7_lay_114 : decode cX7_lay 114 = .ok (.invokevirtual 94, 3) := by decide +kernel
theorem dX7_lay_117 : decode cX7_lay 117 = .ok (.iinc 4 1, 3) := by decide +kernel
theorem dX7_lay_120 : decode cX7_lay 120 = .ok (.goto (-16), 3) := by decide +kernel
theorem dX7_lay_123 : decode cX7_lay 123 = .ok (.iinc 3 (-1), 3) := by decide +kernel
theorem dX7_lay_126 : decode cX7_lay 126 = .ok (.goto (-29), 3) := by decide +kernel
theorem dX7_lay_129 : decode cX7_lay 129 = .ok (.return_, 1) := by decide +kernel
set_option maxRecDepth 20000 in
theorem ggX7_canBePlayed_X7_lay : GoodIn wsX7_canBePlayed wsX7_lay := goodIn_r _ [6, 7, 1, 8, 9, 10, 11, 5, 12, 13, 14, 15, 16, 17, 18, 19, 20, 21, 22, 23, 24, 25, 26, 27, 28, 29, 30, 31, 32, 33, 34, 35, 36, 37, 38, 39, 40, 41, 42, 43, 44, 45, 46, 47, 48, 49, 50, 51, 52, 53, 54, 55, 56, 57, 58, 59, 60, 61, 62, 63, 64, 65, 66, 67, 68, 69] (by decide +kernel) (by decide +kernel)
set_option maxRecDepth 20000 in
theorem gX7_canBePlayed_X7_lay : GoodIn wsX7_canBePlayed (wsV RX7 98 RX7 yX7_lay wsX7_lay) := goodIn_app (goodIn_of _ (by decide +kernel)) ggX7_canBePlayed_X7_lay
theorem dX7_canBePlayed_0 : decode cX7_canBePlayed 0 = .ok (.aload_n 0, 1) := by decide +kernel
theorem dX7_canBePlayed_1 : decode cX7_canBePlayed 1 = .ok (.bipush (-4), 2) := by decide +kernel
theorem dX7_canBePlayed_3 : decode cX7_canBePlayed 3 = .ok (.invokevirtual 98, 3) := by decide +kernel
theorem dX7_canBePlayed_6 : decode cX7_canBePlayed 6 = .ok (.aload_n 0, 1) := by decide +kernel
theorem dX7_canBePlayed_7 : decode cX7_canBePlayed 7 = .ok (.getfield 22, 3) := by decide +kernel
theorem dX7_canBePlayed_10 : decode cX7_canBePlayed 10 = .ok (.iconst 2, 1) := by decide +kernel
theorem dX7_canBePlayed_11 : decode cX7_canBePlayed 11 = .ok (.iaload, 1) := by decide +kernel
theorem dX7_canBePlayed_12 : decode cX7_canBePlayed 12 = .ok (.sipush 1000, 3) := by decide +kernel
theorem dX7_canBePlayed_15 : decode cX7_canBePlayed 15 = .ok (.if_icmp .ge 7, 3) := by decide +kernel
theorem dX7_canBePlayed_18 : decode cX7_canBePlayed 18 = .ok (.iconst 1, 1) := by decide +kernel
theorem dX7_canBePlayed_19 : decode cX7_canBePlayed 19 = .ok (.goto 4, 3) := by decide +kernel
theorem dX7_canBePlayed_22 : decode cX7_canBePlayed 22 = .ok (.iconst 0, 1) := by decide +kernel
theorem dX7_canBePlayed_23 : decode cX7_canBePlayed 23 = .ok (.ireturn, 1) := by decide +kernel
set_option maxRecDepth 20000 in
theorem ggX7_stick_X7_canBePlayed : GoodIn wsX7_stick wsX7_canBePlayed := goodIn_r _ [8, 3, 9, 10, 11, 7, 12, 1, 13, 14, 15, 16, 17, 18, 19, 20, 21, 22, 23, 24, 25, 26, 27, 28, 29, 30, 31, 32, 33, 34, 35, 36, 37, 38, 39, 40, 41, 42, 43, 44, 45, 46, 47, 48, 49, 50, 51, 52, 53, 54, 55, 56, 57, 58, 59, 60, 61, 62, 63, 64, 65, 66, 67, 68, 69, 70, 71, 72, 73, 74] (by decide +kernel) (by decide +kernel)
set_option maxRecDepth 20000 in
theorem gX7_stick_X7_canBePlayed : GoodIn wsX7_stick (wsV RX7 102 RX7 yX7_canBePlayed wsX7_canBePlayed) := goodIn_app (goodIn_of _ (by decide +kernel)) ggX7_stick_X7_canBePlayed
set_option maxRecDepth 20000 in
theorem ggX7_stick_X7_isStroke : GoodIn wsX7_stick wsX7_isStroke := goodIn_r _ [25, 26, 27, 28, 7, 29, 1, 58, 59, 60, 61, 62, 63, 64, 65, 66, 67, 68, 69, 70, 71, 72, 73, 74] (by decide +kernel) (by decide +kernel)
set_option maxRecDepth 20000 in
theorem gX7_stick_X7_isStroke : GoodIn wsX7_stick (wsV RX7 55 RX7 yX7_isStroke wsX7_isStroke) := goodIn_app (goodIn_of _ (by decide +kernel)) ggX7_stick_X7_isStroke
set_option maxRecDepth 20000 in
theorem ggX7_stick_X7_can : GoodIn wsX7_stick wsX7_can := goodIn_r _ [49, 22, 23, 24, 7, 25, 26, 27, 28, 29, 1, 50, 51, 52, 53, 54, 55, 56, 57, 14, 15, 16, 17, 18, 19, 20, 21, 30, 31, 32, 33, 34, 35, 36, 37, 38, 39, 40, 41, 58, 59, 60, 61, 62, 63, 64, 65, 66, 67, 68, 69, 70, 71, 72, 73, 74] (by decide +kernel) (by decide +kernel)
set_option maxRecDepth 20000 in
theorem gX7_stick_X7_can : GoodIn wsX7_stick (wsV RX7 91 RX7 yX7_can wsX7_can) := goodIn_app (goodIn_of _ (by decide +kernel)) ggX7_stick_X7_can
theorem dX7_stick_0 : decode cX7_stick 0 = .ok (.aload_n 0, 1) := by decide +kernel
theorem dX7_stick_1 : decode cX7_stick 1 = .ok (.invokevirtual 102, 3) := by decide +kernel
theorem dX7_stick_4 : decode cX7_stick 4 = .ok (.istore_n 2, 1) := by decide +kernel
theorem dX7_stick_5 : decode cX7_stick 5 = .ok (.iconst 2, 1) := by decide +kernel
theorem dX7_stick_6 : decode cX7_stick 6 = .ok (.istore_n 3, 1) := by decide +kernel
theorem dX7_stick_7 : decode cX7_stick 7 = .ok (.iconst 0, 1) := by decide +kernel
theorem dX7_stick_8 : decode cX7_stick 8 = .ok (.istore 4, 2) := by decide +kernel
theorem dX7_stick_10 : decode cX7_stick 10 = .ok (.iload 4, 2) := by decide +kernel
theorem dX7_stick_12 : decode cX7_stick 12 = .ok (.aload_n 0, 1) := by decide +kernel
theorem dX7_stick_13 : decode cX7_stick 13 = .ok (.getfield 7, 3) := by decide +kernel
theorem dX7_stick_16 : decode cX7_stick 16 = .ok (.iconst 0, 1) := by decide +kernel
theorem dX7_stick_17 : decode cX7_stick 17 = .ok (.iaload, 1) := by decide +kernel
theorem dX7_stick_18 : decode cX7_stick 18 = .ok (.if_icmp .ge 139, 3) := by decide +kernel
theorem dX7_stick_21 : decode cX7_stick 21 = .ok (.iload_n 2, 1) := by decide +kernel
theorem dX7_stick_22 : decode cX7_stick 22 = .ok (.ifCond .eq 135, 3) := by decide +kernel
theorem dX7_stick_25 : decode cX7_stick 25 = .ok (.aload_n 0, 1) := by decide +kernel
theorem dX7_stick_26 : decode cX7_stick 26 = .ok (.getfield 29, 3) := by decide +kernel
theorem dX7_stick_29 : decode cX7_stick 29 = .ok (.iload 4, 2) := by decide +kernel
theorem dX7_stick_31 : decode cX7_stick 31 = .ok (.bipush (-4), 2) := by decide +kernel
theorem dX7_stick_33 : decode cX7_stick 33 = .ok (.iastore, 1) := by decide +kernel
theorem dX7_stick_34 : decode cX7_stick 34 = .ok (.aload_n 0, 1) := by decide +kernel
theorem dX7_stick_35 : decode cX7_stick 35 = .ok (.iload 4, 2) := by decide +kernel
theorem dX7_stick_37 : decode cX7_stick 37 = .ok (.invokevirtual 55, 3) := by decide +kernel
theorem dX7_stick_40 : decode cX7_stick 40 = .ok (.ifCond .eq 111, 3) := by decide +kernel
theorem dX7_stick_43 : decode cX7_stick 43 = .ok (.aload_n 0, 1) := by decide +kernel
theorem dX7_stick_44 : decode cX7_stick 44 = .ok (.iload 4, 2) := by decide +kernel
theorem dX7_stick_46 : decode cX7_stick 46 = .ok (.iload_n 3, 1) := by decide +kernel
theorem dX7_stick_47 : decode cX7_stick 47 = .ok (.iconst 0, 1) := by decide +kernel
theorem dX7_stick_48 : decode cX7_stick 48 = .ok (.invokevirtual 91, 3) := by decide +kernel
theorem dX7_stick_51 : decode cX7_stick 51 = .ok (.ifCond .eq 27, 3) := by decide +kernel
theorem dX7_stick_54 : decode cX7_stick 54 = .ok (.aload_n 0, 1) := by decide +kernel
theorem dX7_stick_55 : decode cX7_stick 55 = .ok (.getfield 22, 3) := by decide +kernel
theorem dX7_stick_58 : decode cX7_stick 58 = .ok (.iconst 3, 1) := by decide +kernel
theorem dX7_stick_59 : decode cX7_stick 59 = .ok (.iload 4, 2) := by decide +kernel
theorem dX7_stick_61 : decode cX7_stick 61 = .ok (.imul, 1) := by decide +kernel
theorem dX7_stick_62 : decode cX7_stick 62 = .ok (.iconst 3, 1) := by decide +kernel
theorem dX7_stick_63 : decode cX7_stick 63 = .ok (.iadd, 1) := by decide +kernel
theorem dX7_stick_64 : decode cX7_stick 64 = .ok (.iaload, 1) := by decide +kernel
theorem dX7_stick_65 : decode cX7_stick 65 = .ok (.iload_n 3, 1) := by decide +kernel
theorem dX7_stick_66 : decode cX7_stick 66 = .ok (.ifCond .ne 7, 3) := by decide +kernel
theorem dX7_stick_69 : decode cX7_stick 69 = .ok (.iconst 1, 1) := by decide +kernel
theorem dX7_stick_70 : decode cX7_stick 70 = .ok (.goto 4, 3) := by decide +kernel
theorem dX7_stick_73 : decode cX7_stick 73 = .ok (.iconst 0, 1) := by decide +kernel
theorem dX7_stick_74 : decode cX7_stick 74 = .ok (.iadd, 1) := by decide +kernel
theorem dX7_stick_75 : decode cX7_stick 75 = .ok (.goto 6, 3) := by decide +kernel
theorem dX7_stick_78 : decode cX7_stick 78 = .ok (.sipush 1000, 3) := by decide +kernel
theorem dX7_stick_81 : decode cX7_stick 81 = .ok (.istore 5, 2) := by decide +kernel
theorem dX7_stick_83 : decode cX7_stick 83 = .ok (.iload_n 1, 1) := by decide +kernel
theorem dX7_stick_84 : decode cX7_stick 84 = .ok (.ifCond .eq 27, 3) := by decide +kernel
theorem dX7_stick_87 : decode cX7_stick 87 = .ok (.iload 5, 2) := by decide +kernel
theorem dX7_stick_89 : decode cX7_stick 89 = .ok (.aload_n 0, 1) := by decide +kernel
theorem dX7_stick_90 : decode cX7_stick 90 = .ok (.getfield 22, 3) := by decide +kernel
theorem dX7_stick_93 : decode cX7_stick 93 = .ok (.iconst 3, 1) := by decide +kernel
theorem dX7_stick_94 : decode cX7_stick 94 = .ok (.iload 4, 2) := by decide +kernel
theorem dX7_stick_96 : decode cX7_stick 96 = .ok (.imul, 1) := by decide +kernel
theorem dX7_stick_97 : decode cX7_stick 97 = .ok (.iload_n 3, 1) := by decide +kernel
theorem dX7_stick_98 : decode cX7_stick 98 = .ok (.iadd, 1) := by decide +kernel
theorem dX7_stick_99 : decode cX7_stick 99 = .ok (.iaload, 1) := by decide +kernel
theorem dX7_stick_100 : decode cX7_stick 100 = .ok (.if_icmp .ne 7, 3) := by decide +kernel
theorem dX7_stick_103 : decode cX7_stick 103 = .ok (.iconst 1, 1) := by decide +kernel
theorem dX7_stick_104 : decode cX7_stick 104 = .ok (.goto 20, 3) := by decide +kernel
theorem dX7_stick_107 : decode cX7_stick 107 = .ok (.iconst 0, 1) := by decide +kernel
theorem dX7_stick_108 : decode cX7_stick 108 = .ok (.goto 16, 3) := by decide +kernel
theorem dX7_stick_111 : decode cX7_stick 111 = .ok (.iload 5, 2) := by decide +kernel
theorem dX7_stick_113 : decode cX7_stick 113 = .ok (.sipush 1000, 3) := by decide +kernel
theorem dX7_stick_116 : decode cX7_stick 116 = .ok (.if_icmp .ge 7, 3) := by decide +kernel
theorem dX7_stick_119 : decode cX7_stick 119 = .ok (.iconst 1, 1) := by decide +kernel
theorem dX7_stick_120 : decode cX7_stick 120 = .ok (.goto 4, 3) := by decide +kernel
theorem dX7_stick_123 : decode cX7_stick 123 = .ok (.iconst 0, 1) := by decide +kernel
theorem dX7_stick_124 : decode cX7_stick 124 = .ok (.istore 6, 2) := by decide +kernel
theorem dX7_stick_126 : decode cX7_stick 126 = .ok (.aload_n 0, 1) := by decide +kernel
theorem dX7_stick_127 : decode cX7_stick 127 = .ok (.getfield 29, 3) := by decide +kernel
theorem dX7_stick_130 : decode cX7_stick 130 = .ok (.iload 4, 2) := by decide +kernel
theorem dX7_stick_132 : decode cX7_stick 132 = .ok (.iload 6, 2) := by decide +kernel
theorem dX7_stick_134 : decode cX7_stick 134 = .ok (.ifCond .eq 7, 3) := by decide +kernel
theorem dX7_stick_137 : decode cX7_stick 137 = .ok (.iconst 0, 1) := by decide +kernel
theorem dX7_stick_138 : decode cX7_stick 138 = .ok (.goto 4, 3) := by decide +kernel
theorem dX7_stick_141 : decode cX7_stick 141 = .ok (.iconst 1, 1) := by decide +kernel
theorem dX7_stick_142 : decode cX7_stick 142 = .ok (.iastore, 1) := by decide +kernel
theorem dX7_stick_143 : decode cX7_stick 143 = .ok (.aload_n 0, 1) := by decide +kernel
theorem dX7_stick_144 : decode cX7_stick 144 = .ok (.getfield 29, 3) := by decide +kernel
theorem dX7_stick_147 : decode cX7_stick 147 = .ok (.iload 4, 2) := by decide +kernel
theorem dX7_stick_149 : decode cX7_stick 149 = .ok (.iaload, 1) := by decide +kernel
theorem dX7_stick_150 : decode cX7_stick 150 = .ok (.istore_n 3, 1) := by decide +kernel
theorem dX7_stick_151 : decode cX7_stick 151 = .ok (.iinc 4 1, 3) := by decide +kernel
theorem dX7_stick_154 : decode cX7_stick 154 = .ok (.goto (-144), 3) := by decide +kernel
theorem dX7_stick_157 : decode cX7_stick 157 = .ok (.iload_n 2, 1) := by decide +kernel
theorem dX7_stick_158 : decode cX7_stick 158 = .ok (.ireturn, 1) := by decide +kernel
theorem dX7_capped_0 : decode cX7_capped 0 = .ok (.lload_n 0, 1) := by decide +kernel
theorem dX7_capped_1 : decode cX7_capped 1 = .ok (.ldc2_w 106, 3) := by decide +kernel
theorem dX7_capped_4 : decode cX7_capped 4 = .ok (.lcmp, 1) := by decide +kernel
theorem dX7_capped_5 : decode cX7_capped 5 = .ok (.ifCond .le 8, 3) := by decide +kernel
theorem dX7_capped_8 : decode cX7_capped 8 = .ok (.ldc 108, 2) := by decide +kernel
theorem dX7_capped_10 : decode cX7_capped 10 = .ok (.goto 5, 3) := by decide +kernel
theorem dX7_capped_13 : decode cX7_capped 13 = .ok (.lload_n 0, 1) := by decide +kernel
theorem dX7_capped_14 : decode cX7_capped 14 = .ok (.l2i, 1) := by decide +kernel
theorem dX7_capped_15 : decode cX7_capped 15 = .ok (.ireturn, 1) := by decide +kernel
set_option maxRecDepth 20000 in
theorem ggX7_stickingsOnce_X7_lay : GoodIn wsX7_stickingsOnce wsX7_lay := goodIn_r _ [6, 7, 8, 1, 9, 10, 11, 5, 12, 13, 14, 15, 16, 17, 18, 19, 20, 21, 22, 23, 24, 25, 26, 27, 28, 29, 30, 31, 32, 33, 34, 35, 36, 37, 38, 39, 40, 41, 42, 43, 44, 45, 46, 47, 48, 49, 50, 51, 52, 58, 59, 60, 61, 62, 63, 64, 65, 66, 67, 68, 69, 70, 71, 72, 73, 74] (by decide +kernel) (by decide +kernel)
set_option maxRecDepth 20000 in
theorem gX7_stickingsOnce_X7_lay : GoodIn wsX7_stickingsOnce (wsV RX7 98 RX7 yX7_lay wsX7_lay) := goodIn_app (goodIn_of _ (by decide +kernel)) ggX7_stickingsOnce_X7_lay
set_option maxRecDepth 20000 in
theorem ggX7_stickingsOnce_X7_capped : GoodIn wsX7_stickingsOnce wsX7_capped := goodIn_r _ [55, 56, 57] (by decide +kernel) (by decide +kernel)
set_option maxRecDepth 20000 in
theorem gX7_stickingsOnce_X7_capped : GoodIn wsX7_stickingsOnce (va_wsS RX7 109 yX7_capped wsX7_capped) := goodIn_app (goodIn_of _ (by decide +kernel)) ggX7_stickingsOnce_X7_capped
theorem dX7_stickingsOnce_0 : decode cX7_stickingsOnce 0 = .ok (.aload_n 0, 1) := by decide +kernel
theorem dX7_stickingsOnce_1 : decode cX7_stickingsOnce 1 = .ok (.bipush (-4), 2) := by decide +kernel
theorem dX7_stickingsOnce_3 : decode cX7_stickingsOnce 3 = .ok (.invokevirtual 98, 3) := by decide +kernel
theorem dX7_stickingsOnce_6 : decode cX7_stickingsOnce 6 = .ok (.aload_n 0, 1) := by decide +kernel
theorem dX7_stickingsOnce_7 : decode cX7_stickingsOnce 7 = .ok (.getfield 25, 3) := by decide +kernel
theorem dX7_stickingsOnce_10 : decode cX7_stickingsOnce 10 = .ok (.iconst 2, 1) := by decide +kernel
theorem dX7_stickingsOnce_11 : decode cX7_stickingsOnce 11 = .ok (.laload, 1) := by decide +kernel
theorem dX7_stickingsOnce_12 : decode cX7_stickingsOnce 12 = .ok (.invokestatic 109, 3) := by decide +kernel
theorem dX7_stickingsOnce_15 : decode cX7_stickingsOnce 15 = .ok (.ireturn, 1) := by decide +kernel
set_option maxRecDepth 20000 in
theorem ggX7_stickingsOver_X7_isStroke : GoodIn wsX7_stickingsOver wsX7_isStroke := goodIn_r _ [7, 8, 9, 10, 6, 11, 1, 62, 63, 64, 65, 66, 67, 68, 69, 70, 71, 72, 73, 74, 75, 76, 77, 78] (by decide +kernel) (by decide +kernel)
set_option maxRecDepth 20000 in
theorem gX7_stickingsOver_X7_isStroke : GoodIn wsX7_stickingsOver (wsV RX7 55 RX7 yX7_isStroke wsX7_isStroke) := goodIn_app (goodIn_of _ (by decide +kernel)) ggX7_stickingsOver_X7_isStroke
set_option maxRecDepth 20000 in
theorem ggX7_stickingsOver_X7_stickingsOnce : GoodIn wsX7_stickingsOver wsX7_stickingsOnce := goodIn_r _ [15, 2, 16, 17, 18, 6, 19, 1, 20, 21, 22, 23, 24, 25, 26, 27, 28, 3, 4, 5, 7, 8, 9, 10, 11, 29, 30, 31, 32, 33, 34, 35, 36, 37, 38, 39, 40, 41, 42, 43, 44, 45, 46, 47, 48, 49, 50, 51, 52, 53, 54, 55, 56, 57, 58, 59, 60, 61, 62, 63, 64, 65, 66, 67, 68, 69, 70, 71, 72, 73, 74, 75, 76, 77, 78] (by decide +kernel) (by decide +kernel)
set_option maxRecDepth 20000 in
theorem gX7_stickingsOver_X7_stickingsOnce : GoodIn wsX7_stickingsOver (wsV RX7 113 RX7 yX7_stickingsOnce wsX7_stickingsOnce) := goodIn_app (goodIn_of _ (by decide +kernel)) ggX7_stickingsOver_X7_stickingsOnce
set_option maxRecDepth 20000 in
theorem ggX7_stickingsOver_X7_allows : GoodIn wsX7_stickingsOver wsX7_allows := goodIn_r _ [52, 53, 54, 55, 6, 56, 8, 9, 10, 11, 1, 62, 63, 64, 65, 66, 67, 68, 69, 70, 71, 72, 73, 74, 75, 76, 77, 78] (by decide +kernel) (by decide +kernel)
set_option maxRecDepth 20000 in
theorem gX7_stickingsOver_X7_allows : GoodIn wsX7_stickingsOver (wsV RX7 83 RX7 yX7_allows wsX7_allows) := goodIn_app (goodIn_of _ (by decide +kernel)) ggX7_stickingsOver_X7_allows
set_option maxRecDepth 20000 in
theorem ggX7_stickingsOver_X7_lay : GoodIn wsX7_stickingsOver wsX7_lay := goodIn_r _ [19, 1, 20, 2, 21, 22, 23, 6, 24, 25, 26, 27, 28, 3, 4, 5, 7, 8, 9, 10, 11, 29, 30, 31, 32, 33, 34, 35, 36, 37, 38, 39, 40, 41, 42, 43, 44, 45, 46, 47, 48, 49, 50, 51, 52, 53, 54, 55, 56, 62, 63, 64, 65, 66, 67, 68, 69, 70, 71, 72, 73, 74, 75, 76, 77, 78] (by decide +kernel) (by decide +kernel)
set_option maxRecDepth 20000 in
theorem gX7_stickingsOver_X7_lay : GoodIn wsX7_stickingsOver (wsV RX7 98 RX7 yX7_lay wsX7_lay) := goodIn_app (goodIn_of _ (by decide +kernel)) ggX7_stickingsOver_X7_lay
set_option maxRecDepth 20000 in
theorem ggX7_stickingsOver_X7_capped : GoodIn wsX7_stickingsOver wsX7_capped := goodIn_r _ [59, 60, 61] (by decide +kernel) (by decide +kernel)
set_option maxRecDepth 20000 in
theorem gX7_stickingsOver_X7_capped : GoodIn wsX7_stickingsOver (va_wsS RX7 109 yX7_capped wsX7_capped) := goodIn_app (goodIn_of _ (by decide +kernel)) ggX7_stickingsOver_X7_capped
theorem dX7_stickingsOver_0 : decode cX7_stickingsOver 0 = .ok (.aload_n 0, 1) := by decide +kernel
theorem dX7_stickingsOver_1 : decode cX7_stickingsOver 1 = .ok (.getfield 7, 3) := by decide +kernel
theorem dX7_stickingsOver_4 : decode cX7_stickingsOver 4 = .ok (.iconst 0, 1) := by decide +kernel
theorem dX7_stickingsOver_5 : decode cX7_stickingsOver 5 = .ok (.iaload, 1) := by decide +kernel
theorem dX7_stickingsOver_6 : decode cX7_stickingsOver 6 = .ok (.istore_n 1, 1) := by decide +kernel
theorem dX7_stickingsOver_7 : decode cX7_stickingsOver 7 = .ok (.iload_n 1, 1) := by decide +kernel
theorem dX7_stickingsOver_8 : decode cX7_stickingsOver 8 = .ok (.ifCond .eq 21, 3) := by decide +kernel
theorem dX7_stickingsOver_11 : decode cX7_stickingsOver 11 = .ok (.aload_n 0, 1) := by decide +kernel
theorem dX7_stickingsOver_12 : decode cX7_stickingsOver 12 = .ok (.iconst 0, 1) := by decide +kernel
theorem dX7_stickingsOver_13 : decode cX7_stickingsOver 13 = .ok (.invokevirtual 55, 3) := by decide +kernel
theorem dX7_stickingsOver_16 : decode cX7_stickingsOver 16 = .ok (.ifCond .eq 13, 3) := by decide +kernel
theorem dX7_stickingsOver_19 : decode cX7_stickingsOver 19 = .ok (.aload_n 0, 1) := by decide +kernel
theorem dX7_stickingsOver_20 : decode cX7_stickingsOver 20 = .ok (.iload_n 1, 1) := by decide +kernel
theorem dX7_stickingsOver_21 : decode cX7_stickingsOver 21 = .ok (.iconst 1, 1) := by decide +kernel
theorem dX7_stickingsOver_22 : decode cX7_stickingsOver 22 = .ok (.isub, 1) := by decide +kernel
theorem dX7_stickingsOver_23 : decode cX7_stickingsOver 23 = .ok (.invokevirtual 55, 3) := by decide +kernel
theorem dX7_stickingsOver_26 : decode cX7_stickingsOver 26 = .ok (.ifCond .ne 8, 3) := by decide +kernel
theorem dX7_stickingsOver_29 : decode cX7_stickingsOver 29 = .ok (.aload_n 0, 1) := by decide +kernel
theorem dX7_stickingsOver_30 : decode cX7_stickingsOver 30 = .ok (.invokevirtual 113, 3) := by decide +kernel
theorem dX7_stickingsOver_33 : decode cX7_stickingsOver 33 = .ok (.ireturn, 1) := by decide +kernel
theorem dX7_stickingsOver_34 : decode cX7_stickingsOver 34 = .ok (.lconst 0, 1) := by decide +kernel
theorem dX7_stickingsOver_35 : decode cX7_stickingsOver 35 = .ok (.lstore_n 2, 1) := by decide +kernel
theorem dX7_stickingsOver_36 : decode cX7_stickingsOver 36 = .ok (.iconst 0, 1) := by decide +kernel
theorem dX7_stickingsOver_37 : decode cX7_stickingsOver 37 = .ok (.istore 4, 2) := by decide +kernel
theorem dX7_stickingsOver_39 : decode cX7_stickingsOver 39 = .ok (.iload 4, 2) := by decide +kernel
theorem dX7_stickingsOver_41 : decode cX7_stickingsOver 41 = .ok (.iconst 2, 1) := by decide +kernel
theorem dX7_stickingsOver_42 : decode cX7_stickingsOver 42 = .ok (.if_icmp .ge 37, 3) := by decide +kernel
theorem dX7_stickingsOver_45 : decode cX7_stickingsOver 45 = .ok (.aload_n 0, 1) := by decide +kernel
theorem dX7_stickingsOver_46 : decode cX7_stickingsOver 46 = .ok (.iconst 0, 1) := by decide +kernel
theorem dX7_stickingsOver_47 : decode cX7_stickingsOver 47 = .ok (.iload 4, 2) := by decide +kernel
theorem dX7_stickingsOver_49 : decode cX7_stickingsOver 49 = .ok (.invokevirtual 83, 3) := by decide +kernel
theorem dX7_stickingsOver_52 : decode cX7_stickingsOver 52 = .ok (.ifCond .eq 21, 3) := by decide +kernel
theorem dX7_stickingsOver_55 : decode cX7_stickingsOver 55 = .ok (.aload_n 0, 1) := by decide +kernel
theorem dX7_stickingsOver_56 : decode cX7_stickingsOver 56 = .ok (.iload 4, 2) := by decide +kernel
theorem dX7_stickingsOver_58 : decode cX7_stickingsOver 58 = .ok (.invokevirtual 98, 3) := by decide +kernel
theorem dX7_stickingsOver_61 : decode cX7_stickingsOver 61 = .ok (.lload_n 2, 1) := by decide +kernel
theorem dX7_stickingsOver_62 : decode cX7_stickingsOver 62 = .ok (.aload_n 0, 1) := by decide +kernel
theorem dX7_stickingsOver_63 : decode cX7_stickingsOver 63 = .ok (.getfield 25, 3) := by decide +kernel
theorem dX7_stickingsOver_66 : decode cX7_stickingsOver 66 = .ok (.iconst 3, 1) := by decide +kernel
theorem dX7_stickingsOver_67 : decode cX7_stickingsOver 67 = .ok (.iload 4, 2) := by decide +kernel
theorem dX7_stickingsOver_69 : decode cX7_stickingsOver 69 = .ok (.iadd, 1) := by decide +kernel
theorem dX7_stickingsOver_70 : decode cX7_stickingsOver 70 = .ok (.laload, 1) := by decide +kernel
theorem dX7_stickingsOver_71 : decode cX7_stickingsOver 71 = .ok (.ladd, 1) := by decide +kernel
theorem dX7_stickingsOver_72 : decode cX7_stickingsOver 72 = .ok (.lstore_n 2, 1) := by decide +kernel
theorem dX7_stickingsOver_73 : decode cX7_stickingsOver 73 = .ok (.iinc 4 1, 3) := by decide +kernel
theorem dX7_stickingsOver_76 : decode cX7_stickingsOver 76 = .ok (.goto (-37), 3) := by decide +kernel
theorem dX7_stickingsOver_79 : decode cX7_stickingsOver 79 = .ok (.lload_n 2, 1) := by decide +kernel
theorem dX7_stickingsOver_80 : decode cX7_stickingsOver 80 = .ok (.invokestatic 109, 3) := by decide +kernel
theorem dX7_stickingsOver_83 : decode cX7_stickingsOver 83 = .ok (.ireturn, 1) := by decide +kernel
set_option maxRecDepth 20000 in
theorem ggX7_lays_X7_record : GoodIn wsX7_lays wsX7_record := goodIn_r _ [6, 7, 8, 1, 9, 10, 11, 12, 13, 14, 15, 16, 17, 18, 19, 20, 21, 22, 23, 24, 25] (by decide +kernel) (by decide +kernel)
set_option maxRecDepth 20000 in
theorem gX7_lays_X7_record : GoodIn wsX7_lays (wsV RX7 117 RX7 yX7_record wsX7_record) := goodIn_app (goodIn_of _ (by decide +kernel)) ggX7_lays_X7_record
theorem dX7_lays_0 : decode cX7_lays 0 = .ok (.iload_n 1, 1) := by decide +kernel
theorem dX7_lays_1 : decode cX7_lays 1 = .ok (.aload_n 0, 1) := by decide +kernel
theorem dX7_lays_2 : decode cX7_lays 2 = .ok (.getfield 7, 3) := by decide +kernel
theorem dX7_lays_5 : decode cX7_lays 5 = .ok (.iconst 0, 1) := by decide +kernel
theorem dX7_lays_6 : decode cX7_lays 6 = .ok (.iaload, 1) := by decide +kernel
theorem dX7_lays_7 : decode cX7_lays 7 = .ok (.if_icmp .ne 12, 3) := by decide +kernel
theorem dX7_lays_10 : decode cX7_lays 10 = .ok (.iload_n 1, 1) := by decide +kernel
theorem dX7_lays_11 : decode cX7_lays 11 = .ok (.bipush 32, 2) := by decide +kernel
theorem dX7_lays_13 : decode cX7_lays 13 = .ok (.if_icmp .ne 6, 3) := by decide +kernel
theorem dX7_lays_16 : decode cX7_lays 16 = .ok (.bipush (-3), 2) := by decide +kernel
theorem dX7_lays_18 : decode cX7_lays 18 = .ok (.ireturn, 1) := by decide +kernel
theorem dX7_lays_19 : decode cX7_lays 19 = .ok (.aload_n 0, 1) := by decide +kernel
theorem dX7_lays_20 : decode cX7_lays 20 = .ok (.invokevirtual 117, 3) := by decide +kernel
theorem dX7_lays_23 : decode cX7_lays 23 = .ok (.aload_n 0, 1) := by decide +kernel
theorem dX7_lays_24 : decode cX7_lays 24 = .ok (.getfield 7, 3) := by decide +kernel
theorem dX7_lays_27 : decode cX7_lays 27 = .ok (.iconst 0, 1) := by decide +kernel
theorem dX7_lays_28 : decode cX7_lays 28 = .ok (.dup2, 1) := by decide +kernel
theorem dX7_lays_29 : decode cX7_lays 29 = .ok (.iaload, 1) := by decide +kernel
theorem dX7_lays_30 : decode cX7_lays 30 = .ok (.iload_n 1, 1) := by decide +kernel
theorem dX7_lays_31 : decode cX7_lays 31 = .ok (.aload_n 0, 1) := by decide +kernel
theorem dX7_lays_32 : decode cX7_lays 32 = .ok (.getfield 7, 3) := by decide +kernel
theorem dX7_lays_35 : decode cX7_lays 35 = .ok (.iconst 0, 1) := by decide +kernel
theorem dX7_lays_36 : decode cX7_lays 36 = .ok (.iaload, 1) := by decide +kernel
theorem dX7_lays_37 : decode cX7_lays 37 = .ok (.if_icmp .ne 7, 3) := by decide +kernel
theorem dX7_lays_40 : decode cX7_lays 40 = .ok (.iconst 1, 1) := by decide +kernel
theorem dX7_lays_41 : decode cX7_lays 41 = .ok (.goto 4, 3) := by decide +kernel
theorem dX7_lays_44 : decode cX7_lays 44 = .ok (.iconst 0, 1) := by decide +kernel
theorem dX7_lays_45 : decode cX7_lays 45 = .ok (.iadd, 1) := by decide +kernel
theorem dX7_lays_46 : decode cX7_lays 46 = .ok (.iastore, 1) := by decide +kernel
theorem dX7_lays_47 : decode cX7_lays 47 = .ok (.aload_n 0, 1) := by decide +kernel
