theorem dX7_lays_48 : decode cX7_lays 48 = .ok (.getfield 7, 3) := by decide +kernel
theorem dX7_lays_51 : decode cX7_lays 51 = .ok (.iconst 2, 1) := by decide +kernel
theorem dX7_lays_52 : decode cX7_lays 52 = .ok (.iload_n 1, 1) := by decide +kernel
theorem dX7_lays_53 : decode cX7_lays 53 = .ok (.iadd, 1) := by decide +kernel
theorem dX7_lays_54 : decode cX7_lays 54 = .ok (.iload_n 2, 1) := by decide +kernel
theorem dX7_lays_55 : decode cX7_lays 55 = .ok (.iastore, 1) := by decide +kernel
theorem dX7_lays_56 : decode cX7_lays 56 = .ok (.aload_n 0, 1) := by decide +kernel
theorem dX7_lays_57 : decode cX7_lays 57 = .ok (.getfield 7, 3) := by decide +kernel
theorem dX7_lays_60 : decode cX7_lays 60 = .ok (.iconst 0, 1) := by decide +kernel
theorem dX7_lays_61 : decode cX7_lays 61 = .ok (.iaload, 1) := by decide +kernel
theorem dX7_lays_62 : decode cX7_lays 62 = .ok (.ireturn, 1) := by decide +kernel
set_option maxRecDepth 20000 in
theorem ggX7_stroke_X7_in : GoodIn wsX7_stroke wsX7_in := goodIn_r _ [5] (by decide +kernel) (by decide +kernel)
set_option maxRecDepth 20000 in
theorem gX7_stroke_X7_in : GoodIn wsX7_stroke (va_wsS RX7 47 yX7_in wsX7_in) := goodIn_app (goodIn_of _ (by decide +kernel)) ggX7_stroke_X7_in
set_option maxRecDepth 20000 in
theorem ggX7_stroke_X7_code : GoodIn wsX7_stroke wsX7_code := goodIn_r _ [8] (by decide +kernel) (by decide +kernel)
set_option maxRecDepth 20000 in
theorem gX7_stroke_X7_code : GoodIn wsX7_stroke (va_wsS RX7 120 yX7_code wsX7_code) := goodIn_app (goodIn_of _ (by decide +kernel)) ggX7_stroke_X7_code
set_option maxRecDepth 20000 in
theorem ggX7_stroke_X7_lays : GoodIn wsX7_stroke wsX7_lays := goodIn_r _ [12, 1, 13, 14, 15, 4, 16, 17, 18, 19, 20, 21, 22, 23, 24, 25, 26, 27, 28, 29, 30, 31, 32, 33, 34, 35] (by decide +kernel) (by decide +kernel)
set_option maxRecDepth 20000 in
theorem gX7_stroke_X7_lays : GoodIn wsX7_stroke (wsV RX7 123 RX7 yX7_lays wsX7_lays) := goodIn_app (goodIn_of _ (by decide +kernel)) ggX7_stroke_X7_lays
theorem dX7_stroke_0 : decode cX7_stroke 0 = .ok (.iload_n 1, 1) := by decide +kernel
theorem dX7_stroke_1 : decode cX7_stroke 1 = .ok (.iconst 0, 1) := by decide +kernel
theorem dX7_stroke_2 : decode cX7_stroke 2 = .ok (.aload_n 0, 1) := by decide +kernel
theorem dX7_stroke_3 : decode cX7_stroke 3 = .ok (.getfield 7, 3) := by decide +kernel
theorem dX7_stroke_6 : decode cX7_stroke 6 = .ok (.iconst 0, 1) := by decide +kernel
theorem dX7_stroke_7 : decode cX7_stroke 7 = .ok (.iaload, 1) := by decide +kernel
theorem dX7_stroke_8 : decode cX7_stroke 8 = .ok (.invokestatic 47, 3) := by decide +kernel
theorem dX7_stroke_11 : decode cX7_stroke 11 = .ok (.ifCond .eq 26, 3) := by decide +kernel
theorem dX7_stroke_14 : decode cX7_stroke 14 = .ok (.iload_n 2, 1) := by decide +kernel
theorem dX7_stroke_15 : decode cX7_stroke 15 = .ok (.iconst 0, 1) := by decide +kernel
theorem dX7_stroke_16 : decode cX7_stroke 16 = .ok (.iconst 2, 1) := by decide +kernel
theorem dX7_stroke_17 : decode cX7_stroke 17 = .ok (.invokestatic 47, 3) := by decide +kernel
theorem dX7_stroke_20 : decode cX7_stroke 20 = .ok (.ifCond .eq 17, 3) := by decide +kernel
theorem dX7_stroke_23 : decode cX7_stroke 23 = .ok (.iload 4, 2) := by decide +kernel
theorem dX7_stroke_25 : decode cX7_stroke 25 = .ok (.iconst 0, 1) := by decide +kernel
theorem dX7_stroke_26 : decode cX7_stroke 26 = .ok (.iconst 3, 1) := by decide +kernel
theorem dX7_stroke_27 : decode cX7_stroke 27 = .ok (.invokestatic 47, 3) := by decide +kernel
theorem dX7_stroke_30 : decode cX7_stroke 30 = .ok (.ifCond .eq 7, 3) := by decide +kernel
theorem dX7_stroke_33 : decode cX7_stroke 33 = .ok (.iconst 1, 1) := by decide +kernel
theorem dX7_stroke_34 : decode cX7_stroke 34 = .ok (.goto 4, 3) := by decide +kernel
theorem dX7_stroke_37 : decode cX7_stroke 37 = .ok (.iconst 0, 1) := by decide +kernel
theorem dX7_stroke_38 : decode cX7_stroke 38 = .ok (.istore 5, 2) := by decide +kernel
theorem dX7_stroke_40 : decode cX7_stroke 40 = .ok (.iload 5, 2) := by decide +kernel
theorem dX7_stroke_42 : decode cX7_stroke 42 = .ok (.ifCond .eq 26, 3) := by decide +kernel
theorem dX7_stroke_45 : decode cX7_stroke 45 = .ok (.aload_n 0, 1) := by decide +kernel
theorem dX7_stroke_46 : decode cX7_stroke 46 = .ok (.iload_n 1, 1) := by decide +kernel
theorem dX7_stroke_47 : decode cX7_stroke 47 = .ok (.iload_n 2, 1) := by decide +kernel
theorem dX7_stroke_48 : decode cX7_stroke 48 = .ok (.iload_n 3, 1) := by decide +kernel
theorem dX7_stroke_49 : decode cX7_stroke 49 = .ok (.ifCond .eq 7, 3) := by decide +kernel
theorem dX7_stroke_52 : decode cX7_stroke 52 = .ok (.iconst 1, 1) := by decide +kernel
theorem dX7_stroke_53 : decode cX7_stroke 53 = .ok (.goto 4, 3) := by decide +kernel
theorem dX7_stroke_56 : decode cX7_stroke 56 = .ok (.iconst 0, 1) := by decide +kernel
theorem dX7_stroke_57 : decode cX7_stroke 57 = .ok (.iload 4, 2) := by decide +kernel
theorem dX7_stroke_59 : decode cX7_stroke 59 = .ok (.invokestatic 120, 3) := by decide +kernel
theorem dX7_stroke_62 : decode cX7_stroke 62 = .ok (.invokevirtual 123, 3) := by decide +kernel
theorem dX7_stroke_65 : decode cX7_stroke 65 = .ok (.goto 4, 3) := by decide +kernel
theorem dX7_stroke_68 : decode cX7_stroke 68 = .ok (.iconst (-1), 1) := by decide +kernel
theorem dX7_stroke_69 : decode cX7_stroke 69 = .ok (.ireturn, 1) := by decide +kernel
set_option maxRecDepth 20000 in
theorem ggX7_rest_X7_in : GoodIn wsX7_rest wsX7_in := goodIn_r _ [5] (by decide +kernel) (by decide +kernel)
set_option maxRecDepth 20000 in
theorem gX7_rest_X7_in : GoodIn wsX7_rest (va_wsS RX7 47 yX7_in wsX7_in) := goodIn_app (goodIn_of _ (by decide +kernel)) ggX7_rest_X7_in
set_option maxRecDepth 20000 in
theorem ggX7_rest_X7_lays : GoodIn wsX7_rest wsX7_lays := goodIn_r _ [9, 1, 10, 11, 12, 4, 13, 14, 15, 16, 17, 18, 19, 20, 21, 22, 23, 24, 25, 26, 27, 28, 29, 30, 31, 32] (by decide +kernel) (by decide +kernel)
set_option maxRecDepth 20000 in
theorem gX7_rest_X7_lays : GoodIn wsX7_rest (wsV RX7 123 RX7 yX7_lays wsX7_lays) := goodIn_app (goodIn_of _ (by decide +kernel)) ggX7_rest_X7_lays
theorem dX7_rest_0 : decode cX7_rest 0 = .ok (.iload_n 1, 1) := by decide +kernel
theorem dX7_rest_1 : decode cX7_rest 1 = .ok (.iconst 0, 1) := by decide +kernel
theorem dX7_rest_2 : decode cX7_rest 2 = .ok (.aload_n 0, 1) := by decide +kernel
theorem dX7_rest_3 : decode cX7_rest 3 = .ok (.getfield 7, 3) := by decide +kernel
theorem dX7_rest_6 : decode cX7_rest 6 = .ok (.iconst 0, 1) := by decide +kernel
theorem dX7_rest_7 : decode cX7_rest 7 = .ok (.iaload, 1) := by decide +kernel
theorem dX7_rest_8 : decode cX7_rest 8 = .ok (.invokestatic 47, 3) := by decide +kernel
theorem dX7_rest_11 : decode cX7_rest 11 = .ok (.ifCond .eq 12, 3) := by decide +kernel
theorem dX7_rest_14 : decode cX7_rest 14 = .ok (.aload_n 0, 1) := by decide +kernel
theorem dX7_rest_15 : decode cX7_rest 15 = .ok (.iload_n 1, 1) := by decide +kernel
theorem dX7_rest_16 : decode cX7_rest 16 = .ok (.iconst 0, 1) := by decide +kernel
theorem dX7_rest_17 : decode cX7_rest 17 = .ok (.invokevirtual 123, 3) := by decide +kernel
theorem dX7_rest_20 : decode cX7_rest 20 = .ok (.goto 4, 3) := by decide +kernel
theorem dX7_rest_23 : decode cX7_rest 23 = .ok (.iconst (-1), 1) := by decide +kernel
theorem dX7_rest_24 : decode cX7_rest 24 = .ok (.ireturn, 1) := by decide +kernel
set_option maxRecDepth 20000 in
theorem ggX7_put_X7_in : GoodIn wsX7_put wsX7_in := goodIn_r _ [5] (by decide +kernel) (by decide +kernel)
set_option maxRecDepth 20000 in
theorem gX7_put_X7_in : GoodIn wsX7_put (va_wsS RX7 47 yX7_in wsX7_in) := goodIn_app (goodIn_of _ (by decide +kernel)) ggX7_put_X7_in
set_option maxRecDepth 20000 in
theorem ggX7_put_X7_isStep : GoodIn wsX7_put wsX7_isStep := goodIn_r _ [9, 1, 2, 3, 4, 5, 20, 21, 22, 23, 24, 25, 26, 27, 28, 29, 30, 31, 32, 33, 34, 35, 36] (by decide +kernel) (by decide +kernel)
set_option maxRecDepth 20000 in
theorem gX7_put_X7_isStep : GoodIn wsX7_put (wsV RX7 126 RX7 yX7_isStep wsX7_isStep) := goodIn_app (goodIn_of _ (by decide +kernel)) ggX7_put_X7_isStep
set_option maxRecDepth 20000 in
theorem ggX7_put_X7_record : GoodIn wsX7_put wsX7_record := goodIn_r _ [13, 14, 15, 1, 20, 21, 22, 23, 24, 25, 26, 27, 28, 29, 30, 31, 32, 33, 34, 35, 36] (by decide +kernel) (by decide +kernel)
set_option maxRecDepth 20000 in
theorem gX7_put_X7_record : GoodIn wsX7_put (wsV RX7 117 RX7 yX7_record wsX7_record) := goodIn_app (goodIn_of _ (by decide +kernel)) ggX7_put_X7_record
set_option maxRecDepth 20000 in
theorem ggX7_put_X7_at : GoodIn wsX7_put wsX7_at := goodIn_r _ [19, 1, 20, 21, 22, 23, 24, 25, 26, 27, 28, 29, 30, 31, 32, 33, 34, 35, 36] (by decide +kernel) (by decide +kernel)
set_option maxRecDepth 20000 in
theorem gX7_put_X7_at : GoodIn wsX7_put (wsV RX7 51 RX7 yX7_at wsX7_at) := goodIn_app (goodIn_of _ (by decide +kernel)) ggX7_put_X7_at
theorem dX7_put_0 : decode cX7_put 0 = .ok (.iload_n 1, 1) := by decide +kernel
theorem dX7_put_1 : decode cX7_put 1 = .ok (.iconst 0, 1) := by decide +kernel
theorem dX7_put_2 : decode cX7_put 2 = .ok (.aload_n 0, 1) := by decide +kernel
theorem dX7_put_3 : decode cX7_put 3 = .ok (.getfield 7, 3) := by decide +kernel
theorem dX7_put_6 : decode cX7_put 6 = .ok (.iconst 0, 1) := by decide +kernel
theorem dX7_put_7 : decode cX7_put 7 = .ok (.iaload, 1) := by decide +kernel
theorem dX7_put_8 : decode cX7_put 8 = .ok (.invokestatic 47, 3) := by decide +kernel
theorem dX7_put_11 : decode cX7_put 11 = .ok (.ifCond .eq 11, 3) := by decide +kernel
theorem dX7_put_14 : decode cX7_put 14 = .ok (.aload_n 0, 1) := by decide +kernel
theorem dX7_put_15 : decode cX7_put 15 = .ok (.iload_n 2, 1) := by decide +kernel
theorem dX7_put_16 : decode cX7_put 16 = .ok (.invokevirtual 126, 3) := by decide +kernel
theorem dX7_put_19 : decode cX7_put 19 = .ok (.ifCond .ne 5, 3) := by decide +kernel
theorem dX7_put_22 : decode cX7_put 22 = .ok (.iconst (-1), 1) := by decide +kernel
theorem dX7_put_23 : decode cX7_put 23 = .ok (.ireturn, 1) := by decide +kernel
theorem dX7_put_24 : decode cX7_put 24 = .ok (.aload_n 0, 1) := by decide +kernel
theorem dX7_put_25 : decode cX7_put 25 = .ok (.getfield 7, 3) := by decide +kernel
theorem dX7_put_28 : decode cX7_put 28 = .ok (.iconst 0, 1) := by decide +kernel
theorem dX7_put_29 : decode cX7_put 29 = .ok (.iaload, 1) := by decide +kernel
theorem dX7_put_30 : decode cX7_put 30 = .ok (.bipush 32, 2) := by decide +kernel
theorem dX7_put_32 : decode cX7_put 32 = .ok (.if_icmp .ne 6, 3) := by decide +kernel
theorem dX7_put_35 : decode cX7_put 35 = .ok (.bipush (-3), 2) := by decide +kernel
theorem dX7_put_37 : decode cX7_put 37 = .ok (.ireturn, 1) := by decide +kernel
theorem dX7_put_38 : decode cX7_put 38 = .ok (.aload_n 0, 1) := by decide +kernel
theorem dX7_put_39 : decode cX7_put 39 = .ok (.invokevirtual 117, 3) := by decide +kernel
theorem dX7_put_42 : decode cX7_put 42 = .ok (.aload_n 0, 1) := by decide +kernel
theorem dX7_put_43 : decode cX7_put 43 = .ok (.iload_n 2, 1) := by decide +kernel
theorem dX7_put_44 : decode cX7_put 44 = .ok (.invokevirtual 51, 3) := by decide +kernel
theorem dX7_put_47 : decode cX7_put 47 = .ok (.istore_n 3, 1) := by decide +kernel
theorem dX7_put_48 : decode cX7_put 48 = .ok (.aload_n 0, 1) := by decide +kernel
theorem dX7_put_49 : decode cX7_put 49 = .ok (.getfield 7, 3) := by decide +kernel
theorem dX7_put_52 : decode cX7_put 52 = .ok (.iconst 0, 1) := by decide +kernel
theorem dX7_put_53 : decode cX7_put 53 = .ok (.iaload, 1) := by decide +kernel
theorem dX7_put_54 : decode cX7_put 54 = .ok (.istore 4, 2) := by decide +kernel
theorem dX7_put_56 : decode cX7_put 56 = .ok (.iload 4, 2) := by decide +kernel
theorem dX7_put_58 : decode cX7_put 58 = .ok (.iload_n 1, 1) := by decide +kernel
theorem dX7_put_59 : decode cX7_put 59 = .ok (.if_icmp .le 29, 3) := by decide +kernel
theorem dX7_put_62 : decode cX7_put 62 = .ok (.aload_n 0, 1) := by decide +kernel
theorem dX7_put_63 : decode cX7_put 63 = .ok (.getfield 7, 3) := by decide +kernel
theorem dX7_put_66 : decode cX7_put 66 = .ok (.iconst 2, 1) := by decide +kernel
theorem dX7_put_67 : decode cX7_put 67 = .ok (.iload 4, 2) := by decide +kernel
theorem dX7_put_69 : decode cX7_put 69 = .ok (.iadd, 1) := by decide +kernel
theorem dX7_put_70 : decode cX7_put 70 = .ok (.aload_n 0, 1) := by decide +kernel
theorem dX7_put_71 : decode cX7_put 71 = .ok (.getfield 7, 3) := by decide +kernel
theorem dX7_put_74 : decode cX7_put 74 = .ok (.iconst 2, 1) := by decide +kernel
theorem dX7_put_75 : decode cX7_put 75 = .ok (.iload 4, 2) := by decide +kernel
theorem dX7_put_77 : decode cX7_put 77 = .ok (.iadd, 1) := by decide +kernel
theorem dX7_put_78 : decode cX7_put 78 = .ok (.iconst 1, 1) := by decide +kernel
theorem dX7_put_79 : decode cX7_put 79 = .ok (.isub, 1) := by decide +kernel
theorem dX7_put_80 : decode cX7_put 80 = .ok (.iaload, 1) := by decide +kernel
theorem dX7_put_81 : decode cX7_put 81 = .ok (.iastore, 1) := by decide +kernel
theorem dX7_put_82 : decode cX7_put 82 = .ok (.iinc 4 (-1), 3) := by decide +kernel
theorem dX7_put_85 : decode cX7_put 85 = .ok (.goto (-29), 3) := by decide +kernel
theorem dX7_put_88 : decode cX7_put 88 = .ok (.aload_n 0, 1) := by decide +kernel
theorem dX7_put_89 : decode cX7_put 89 = .ok (.getfield 7, 3) := by decide +kernel
theorem dX7_put_92 : decode cX7_put 92 = .ok (.iconst 2, 1) := by decide +kernel
theorem dX7_put_93 : decode cX7_put 93 = .ok (.iload_n 1, 1) := by decide +kernel
theorem dX7_put_94 : decode cX7_put 94 = .ok (.iadd, 1) := by decide +kernel
theorem dX7_put_95 : decode cX7_put 95 = .ok (.iload_n 3, 1) := by decide +kernel
theorem dX7_put_96 : decode cX7_put 96 = .ok (.iastore, 1) := by decide +kernel
theorem dX7_put_97 : decode cX7_put 97 = .ok (.aload_n 0, 1) := by decide +kernel
theorem dX7_put_98 : decode cX7_put 98 = .ok (.getfield 7, 3) := by decide +kernel
theorem dX7_put_101 : decode cX7_put 101 = .ok (.iconst 0, 1) := by decide +kernel
theorem dX7_put_102 : decode cX7_put 102 = .ok (.dup2, 1) := by decide +kernel
theorem dX7_put_103 : decode cX7_put 103 = .ok (.iaload, 1) := by decide +kernel
theorem dX7_put_104 : decode cX7_put 104 = .ok (.iconst 1, 1) := by decide +kernel
theorem dX7_put_105 : decode cX7_put 105 = .ok (.iadd, 1) := by decide +kernel
theorem dX7_put_106 : decode cX7_put 106 = .ok (.iastore, 1) := by decide +kernel
theorem dX7_put_107 : decode cX7_put 107 = .ok (.aload_n 0, 1) := by decide +kernel
theorem dX7_put_108 : decode cX7_put 108 = .ok (.getfield 7, 3) := by decide +kernel
theorem dX7_put_111 : decode cX7_put 111 = .ok (.iconst 0, 1) := by decide +kernel
theorem dX7_put_112 : decode cX7_put 112 = .ok (.iaload, 1) := by decide +kernel
theorem dX7_put_113 : decode cX7_put 113 = .ok (.ireturn, 1) := by decide +kernel
set_option maxRecDepth 20000 in
theorem ggX7_cut_X7_isStep : GoodIn wsX7_cut wsX7_isStep := goodIn_r _ [6, 1, 7, 8, 5, 9, 16, 17, 18, 19, 20, 21, 22, 23, 24, 25, 26, 27, 28, 29, 30, 31, 32] (by decide +kernel) (by decide +kernel)
set_option maxRecDepth 20000 in
theorem gX7_cut_X7_isStep : GoodIn wsX7_cut (wsV RX7 126 RX7 yX7_isStep wsX7_isStep) := goodIn_app (goodIn_of _ (by decide +kernel)) ggX7_cut_X7_isStep
set_option maxRecDepth 20000 in
theorem ggX7_cut_X7_record : GoodIn wsX7_cut wsX7_record := goodIn_r _ [13, 14, 15, 1, 16, 17, 18, 19, 20, 21, 22, 23, 24, 25, 26, 27, 28, 29, 30, 31, 32] (by decide +kernel) (by decide +kernel)
set_option maxRecDepth 20000 in
theorem gX7_cut_X7_record : GoodIn wsX7_cut (wsV RX7 117 RX7 yX7_record wsX7_record) := goodIn_app (goodIn_of _ (by decide +kernel)) ggX7_cut_X7_record
theorem dX7_cut_0 : decode cX7_cut 0 = .ok (.aload_n 0, 1) := by decide +kernel
theorem dX7_cut_1 : decode cX7_cut 1 = .ok (.iload_n 1, 1) := by decide +kernel
theorem dX7_cut_2 : decode cX7_cut 2 = .ok (.invokevirtual 126, 3) := by decide +kernel
theorem dX7_cut_5 : decode cX7_cut 5 = .ok (.ifCond .eq 16, 3) := by decide +kernel
theorem dX7_cut_8 : decode cX7_cut 8 = .ok (.aload_n 0, 1) := by decide +kernel
theorem dX7_cut_9 : decode cX7_cut 9 = .ok (.iload_n 2, 1) := by decide +kernel
theorem dX7_cut_10 : decode cX7_cut 10 = .ok (.invokevirtual 126, 3) := by decide +kernel
theorem dX7_cut_13 : decode cX7_cut 13 = .ok (.ifCond .eq 8, 3) := by decide +kernel
theorem dX7_cut_16 : decode cX7_cut 16 = .ok (.iload_n 2, 1) := by decide +kernel
theorem dX7_cut_17 : decode cX7_cut 17 = .ok (.iload_n 1, 1) := by decide +kernel
theorem dX7_cut_18 : decode cX7_cut 18 = .ok (.if_icmp .ge 5, 3) := by decide +kernel
theorem dX7_cut_21 : decode cX7_cut 21 = .ok (.iconst (-1), 1) := by decide +kernel
theorem dX7_cut_22 : decode cX7_cut 22 = .ok (.ireturn, 1) := by decide +kernel
theorem dX7_cut_23 : decode cX7_cut 23 = .ok (.aload_n 0, 1) := by decide +kernel
theorem dX7_cut_24 : decode cX7_cut 24 = .ok (.invokevirtual 117, 3) := by decide +kernel
theorem dX7_cut_27 : decode cX7_cut 27 = .ok (.iload_n 2, 1) := by decide +kernel
theorem dX7_cut_28 : decode cX7_cut 28 = .ok (.iload_n 1, 1) := by decide +kernel
theorem dX7_cut_29 : decode cX7_cut 29 = .ok (.isub, 1) := by decide +kernel
theorem dX7_cut_30 : decode cX7_cut 30 = .ok (.iconst 1, 1) := by decide +kernel
theorem dX7_cut_31 : decode cX7_cut 31 = .ok (.iadd, 1) := by decide +kernel
theorem dX7_cut_32 : decode cX7_cut 32 = .ok (.istore_n 3, 1) := by decide +kernel
theorem dX7_cut_33 : decode cX7_cut 33 = .ok (.aload_n 0, 1) := by decide +kernel
theorem dX7_cut_34 : decode cX7_cut 34 = .ok (.getfield 7, 3) := by decide +kernel
theorem dX7_cut_37 : decode cX7_cut 37 = .ok (.iconst 0, 1) := by decide +kernel
theorem dX7_cut_38 : decode cX7_cut 38 = .ok (.dup2, 1) := by decide +kernel
theorem dX7_cut_39 : decode cX7_cut 39 = .ok (.iaload, 1) := by decide +kernel
theorem dX7_cut_40 : decode cX7_cut 40 = .ok (.iload_n 3, 1) := by decide +kernel
theorem dX7_cut_41 : decode cX7_cut 41 = .ok (.isub, 1) := by decide +kernel
theorem dX7_cut_42 : decode cX7_cut 42 = .ok (.iastore, 1) := by decide +kernel
theorem dX7_cut_43 : decode cX7_cut 43 = .ok (.iload_n 1, 1) := by decide +kernel
theorem dX7_cut_44 : decode cX7_cut 44 = .ok (.istore 4, 2) := by decide +kernel
theorem dX7_cut_46 : decode cX7_cut 46 = .ok (.iload 4, 2) := by decide +kernel
theorem dX7_cut_48 : decode cX7_cut 48 = .ok (.aload_n 0, 1) := by decide +kernel
theorem dX7_cut_49 : decode cX7_cut 49 = .ok (.getfield 7, 3) := by decide +kernel
theorem dX7_cut_52 : decode cX7_cut 52 = .ok (.iconst 0, 1) := by decide +kernel
theorem dX7_cut_53 : decode cX7_cut 53 = .ok (.iaload, 1) := by decide +kernel
theorem dX7_cut_54 : decode cX7_cut 54 = .ok (.if_icmp .ge 29, 3) := by decide +kernel
theorem dX7_cut_57 : decode cX7_cut 57 = .ok (.aload_n 0, 1) := by decide +kernel
theorem dX7_cut_58 : decode cX7_cut 58 = .ok (.getfield 7, 3) := by decide +kernel
theorem dX7_cut_61 : decode cX7_cut 61 = .ok (.iconst 2, 1) := by decide +kernel
theorem dX7_cut_62 : decode cX7_cut 62 = .ok (.iload 4, 2) := by decide +kernel
theorem dX7_cut_64 : decode cX7_cut 64 = .ok (.iadd, 1) := by decide +kernel
theorem dX7_cut_65 : decode cX7_cut 65 = .ok (.aload_n 0, 1) := by decide +kernel
theorem dX7_cut_66 : decode cX7_cut 66 = .ok (.getfield 7, 3) := by decide +kernel
theorem dX7_cut_69 : decode cX7_cut 69 = .ok (.iconst 2, 1) := by decide +kernel
theorem dX7_cut_70 : decode cX7_cut 70 = .ok (.iload 4, 2) := by decide +kernel
theorem dX7_cut_72 : decode cX7_cut 72 = .ok (.iadd, 1) := by decide +kernel
theorem dX7_cut_73 : decode cX7_cut 73 = .ok (.iload_n 3, 1) := by decide +kernel
theorem dX7_cut_74 : decode cX7_cut 74 = .ok (.iadd, 1) := by decide +kernel
theorem dX7_cut_75 : decode cX7_cut 75 = .ok (.iaload, 1) := by decide +kernel
theorem dX7_cut_76 : decode cX7_cut 76 = .ok (.iastore, 1) := by decide +kernel
theorem dX7_cut_77 : decode cX7_cut 77 = .ok (.iinc 4 1, 3) := by decide +kernel
theorem dX7_cut_80 : decode cX7_cut 80 = .ok (.goto (-34), 3) := by decide +kernel
theorem dX7_cut_83 : decode cX7_cut 83 = .ok (.aload_n 0, 1) := by decide +kernel
theorem dX7_cut_84 : decode cX7_cut 84 = .ok (.getfield 7, 3) := by decide +kernel
theorem dX7_cut_87 : decode cX7_cut 87 = .ok (.iconst 0, 1) := by decide +kernel
theorem dX7_cut_88 : decode cX7_cut 88 = .ok (.iaload, 1) := by decide +kernel
theorem dX7_cut_89 : decode cX7_cut 89 = .ok (.istore 4, 2) := by decide +kernel
theorem dX7_cut_91 : decode cX7_cut 91 = .ok (.iload 4, 2) := by decide +kernel
theorem dX7_cut_93 : decode cX7_cut 93 = .ok (.aload_n 0, 1) := by decide +kernel
theorem dX7_cut_94 : decode cX7_cut 94 = .ok (.getfield 7, 3) := by decide +kernel
theorem dX7_cut_97 : decode cX7_cut 97 = .ok (.iconst 0, 1) := by decide +kernel
theorem dX7_cut_98 : decode cX7_cut 98 = .ok (.iaload, 1) := by decide +kernel
theorem dX7_cut_99 : decode cX7_cut 99 = .ok (.iload_n 3, 1) := by decide +kernel
theorem dX7_cut_100 : decode cX7_cut 100 = .ok (.iadd, 1) := by decide +kernel
theorem dX7_cut_101 : decode cX7_cut 101 = .ok (.if_icmp .ge 19, 3) := by decide +kernel
theorem dX7_cut_104 : decode cX7_cut 104 = .ok (.aload_n 0, 1) := by decide +kernel
theorem dX7_cut_105 : decode cX7_cut 105 = .ok (.getfield 7, 3) := by decide +kernel
theorem dX7_cut_108 : decode cX7_cut 108 = .ok (.iconst 2, 1) := by decide +kernel
theorem dX7_cut_109 : decode cX7_cut 109 = .ok (.iload 4, 2) := by decide +kernel
theorem dX7_cut_111 : decode cX7_cut 111 = .ok (.iadd, 1) := by decide +kernel
theorem dX7_cut_112 : decode cX7_cut 112 = .ok (.iconst 0, 1) := by decide +kernel
theorem dX7_cut_113 : decode cX7_cut 113 = .ok (.iastore, 1) := by decide +kernel
theorem dX7_cut_114 : decode cX7_cut 114 = .ok (.iinc 4 1, 3) := by decide +kernel
theorem dX7_cut_117 : decode cX7_cut 117 = .ok (.goto (-26), 3) := by decide +kernel
theorem dX7_cut_120 : decode cX7_cut 120 = .ok (.aload_n 0, 1) := by decide +kernel
theorem dX7_cut_121 : decode cX7_cut 121 = .ok (.getfield 7, 3) := by decide +kernel
theorem dX7_cut_124 : decode cX7_cut 124 = .ok (.iconst 0, 1) := by decide +kernel
theorem dX7_cut_125 : decode cX7_cut 125 = .ok (.iaload, 1) := by decide +kernel
theorem dX7_cut_126 : decode cX7_cut 126 = .ok (.ireturn, 1) := by decide +kernel
set_option maxRecDepth 20000 in
theorem ggX7_mirror_X7_record : GoodIn wsX7_mirror wsX7_record := goodIn_r _ [6, 7, 8, 1, 32, 33, 34, 35, 36, 37, 38, 39, 40, 41, 42, 43, 44, 45, 46, 47, 48] (by decide +kernel) (by decide +kernel)
set_option maxRecDepth 20000 in
theorem gX7_mirror_X7_record : GoodIn wsX7_mirror (wsV RX7 117 RX7 yX7_record wsX7_record) := goodIn_app (goodIn_of _ (by decide +kernel)) ggX7_mirror_X7_record
set_option maxRecDepth 20000 in
theorem ggX7_mirror_X7_isStroke : GoodIn wsX7_mirror wsX7_isStroke := goodIn_r _ [12, 13, 14, 15, 5, 16, 1, 32, 33, 34, 35, 36, 37, 38, 39, 40, 41, 42, 43, 44, 45, 46, 47, 48] (by decide +kernel) (by decide +kernel)
set_option maxRecDepth 20000 in
theorem gX7_mirror_X7_isStroke : GoodIn wsX7_mirror (wsV RX7 55 RX7 yX7_isStroke wsX7_isStroke) := goodIn_app (goodIn_of _ (by decide +kernel)) ggX7_mirror_X7_isStroke
set_option maxRecDepth 20000 in
theorem ggX7_mirror_X7_hand : GoodIn wsX7_mirror wsX7_hand := goodIn_r _ [20, 13, 14, 15, 5, 16, 1, 32, 33, 34, 35, 36, 37, 38, 39, 40, 41, 42, 43, 44, 45, 46, 47, 48] (by decide +kernel) (by decide +kernel)
set_option maxRecDepth 20000 in
theorem gX7_mirror_X7_hand : GoodIn wsX7_mirror (wsV RX7 80 RX7 yX7_hand wsX7_hand) := goodIn_app (goodIn_of _ (by decide +kernel)) ggX7_mirror_X7_hand
set_option maxRecDepth 20000 in
theorem ggX7_mirror_X7_accent : GoodIn wsX7_mirror wsX7_accent := goodIn_r _ [24, 9, 10, 11, 5, 12, 13, 14, 15, 16, 1, 32, 33, 34, 35, 36, 37, 38, 39, 40, 41, 42, 43, 44, 45, 46, 47, 48] (by decide +kernel) (by decide +kernel)
set_option maxRecDepth 20000 in
theorem gX7_mirror_X7_accent : GoodIn wsX7_mirror (wsV RX7 66 RX7 yX7_accent wsX7_accent) := goodIn_app (goodIn_of _ (by decide +kernel)) ggX7_mirror_X7_accent
set_option maxRecDepth 20000 in
theorem ggX7_mirror_X7_ornament : GoodIn wsX7_mirror wsX7_ornament := goodIn_r _ [28, 9, 10, 11, 5, 12, 13, 14, 15, 16, 1, 32, 33, 34, 35, 36, 37, 38, 39, 40, 41, 42, 43, 44, 45, 46, 47, 48] (by decide +kernel) (by decide +kernel)
set_option maxRecDepth 20000 in
theorem gX7_mirror_X7_ornament : GoodIn wsX7_mirror (wsV RX7 63 RX7 yX7_ornament wsX7_ornament) := goodIn_app (goodIn_of _ (by decide +kernel)) ggX7_mirror_X7_ornament
set_option maxRecDepth 20000 in
theorem ggX7_mirror_X7_code : GoodIn wsX7_mirror wsX7_code := goodIn_r _ [31] (by decide +kernel) (by decide +kernel)
set_option maxRecDepth 20000 in
theorem gX7_mirror_X7_code : GoodIn wsX7_mirror (va_wsS RX7 120 yX7_code wsX7_code) := goodIn_app (goodIn_of _ (by decide +kernel)) ggX7_mirror_X7_code
theorem dX7_mirror_0 : decode cX7_mirror 0 = .ok (.aload_n 0, 1) := by decide +kernel
theorem dX7_mirror_1 : decode cX7_mirror 1 = .ok (.invokevirtual 117, 3) := by decide +kernel
theorem dX7_mirror_4 : decode cX7_mirror 4 = .ok (.iconst 0, 1) := by decide +kernel
theorem dX7_mirror_5 : decode cX7_mirror 5 = .ok (.istore_n 1, 1) := by decide +kernel
theorem dX7_mirror_6 : decode cX7_mirror 6 = .ok (.iconst 0, 1) := by decide +kernel
theorem dX7_mirror_7 : decode cX7_mirror 7 = .ok (.istore_n 2, 1) := by decide +kernel
theorem dX7_mirror_8 : decode cX7_mirror 8 = .ok (.iload_n 2, 1) := by decide +kernel
theorem dX7_mirror_9 : decode cX7_mirror 9 = .ok (.aload_n 0, 1) := by decide +kernel
theorem dX7_mirror_10 : decode cX7_mirror 10 = .ok (.getfield 7, 3) := by decide +kernel
theorem dX7_mirror_13 : decode cX7_mirror 13 = .ok (.iconst 0, 1) := by decide +kernel
theorem dX7_mirror_14 : decode cX7_mirror 14 = .ok (.iaload, 1) := by decide +kernel
theorem dX7_mirror_15 : decode cX7_mirror 15 = .ok (.if_icmp .ge 57, 3) := by decide +kernel
theorem dX7_mirror_18 : decode cX7_mirror 18 = .ok (.aload_n 0, 1) := by decide +kernel
theorem dX7_mirror_19 : decode cX7_mirror 19 = .ok (.iload_n 2, 1) := by decide +kernel
theorem dX7_mirror_20 : decode cX7_mirror 20 = .ok (.invokevirtual 55, 3) := by decide +kernel
theorem dX7_mirror_23 : decode cX7_mirror 23 = .ok (.ifCond .eq 43, 3) := by decide +kernel
theorem dX7_mirror_26 : decode cX7_mirror 26 = .ok (.aload_n 0, 1) := by decide +kernel
theorem dX7_mirror_27 : decode cX7_mirror 27 = .ok (.iload_n 2, 1) := by decide +kernel
theorem dX7_mirror_28 : decode cX7_mirror 28 = .ok (.invokevirtual 80, 3) := by decide +kernel
theorem dX7_mirror_31 : decode cX7_mirror 31 = .ok (.iconst 2, 1) := by decide +kernel
theorem dX7_mirror_32 : decode cX7_mirror 32 = .ok (.if_icmp .eq 34, 3) := by decide +kernel
theorem dX7_mirror_35 : decode cX7_mirror 35 = .ok (.aload_n 0, 1) := by decide +kernel
theorem dX7_mirror_36 : decode cX7_mirror 36 = .ok (.getfield 7, 3) := by decide +kernel
theorem dX7_mirror_39 : decode cX7_mirror 39 = .ok (.iconst 2, 1) := by decide +kernel
theorem dX7_mirror_40 : decode cX7_mirror 40 = .ok (.iload_n 2, 1) := by decide +kernel
theorem dX7_mirror_41 : decode cX7_mirror 41 = .ok (.iadd, 1) := by decide +kernel
theorem dX7_mirror_42 : decode cX7_mirror 42 = .ok (.iconst 1, 1) := by decide +kernel
theorem dX7_mirror_43 : decode cX7_mirror 43 = .ok (.aload_n 0, 1) := by decide +kernel
theorem dX7_mirror_44 : decode cX7_mirror 44 = .ok (.iload_n 2, 1) := by decide +kernel
theorem dX7_mirror_45 : decode cX7_mirror 45 = .ok (.invokevirtual 80, 3) := by decide +kernel
theorem dX7_mirror_48 : decode cX7_mirror 48 = .ok (.isub, 1) := by decide +kernel
theorem dX7_mirror_49 : decode cX7_mirror 49 = .ok (.aload_n 0, 1) := by decide +kernel
theorem dX7_mirror_50 : decode cX7_mirror 50 = .ok (.iload_n 2, 1) := by decide +kernel
theorem dX7_mirror_51 : decode cX7_mirror 51 = .ok (.invokevirtual 66, 3) := by decide +kernel
theorem dX7_mirror_54 : decode cX7_mirror 54 = .ok (.aload_n 0, 1) := by decide +kernel
theorem dX7_mirror_55 : decode cX7_mirror 55 = .ok (.iload_n 2, 1) := by decide +kernel
theorem dX7_mirror_56 : decode cX7_mirror 56 = .ok (.invokevirtual 63, 3) := by decide +kernel
theorem dX7_mirror_59 : decode cX7_mirror 59 = .ok (.invokestatic 120, 3) := by decide +kernel
theorem dX7_mirror_62 : decode cX7_mirror 62 = .ok (.iastore, 1) := by decide +kernel
theorem dX7_mirror_63 : decode cX7_mirror 63 = .ok (.iinc 1 1, 3) := by decide +kernel
theorem dX7_mirror_66 : decode cX7_mirror 66 = .ok (.iinc 2 1, 3) := by decide +kernel
theorem dX7_mirror_69 : decode cX7_mirror 69 = .ok (.goto (-61), 3) := by decide +kernel
theorem dX7_mirror_72 : decode cX7_mirror 72 = .ok (.iload_n 1, 1) := by decide +kernel
theorem dX7_mirror_73 : decode cX7_mirror 73 = .ok (.ireturn, 1) := by decide +kernel
set_option maxRecDepth 20000 in
theorem ggX7_turn_X7_in : GoodIn wsX7_turn wsX7_in := goodIn_r _ [6] (by decide +kernel) (by decide +kernel)
set_option maxRecDepth 20000 in
theorem gX7_turn_X7_in : GoodIn wsX7_turn (va_wsS RX7 47 yX7_in wsX7_in) := goodIn_app (goodIn_of _ (by decide +kernel)) ggX7_turn_X7_in
set_option maxRecDepth 20000 in
theorem ggX7_turn_X7_record : GoodIn wsX7_turn wsX7_record := goodIn_r _ [10, 11, 12, 1, 17, 18, 19, 20, 21, 22, 23, 24, 25, 26, 27, 28, 29, 30, 31, 32, 33] (by decide +kernel) (by decide +kernel)
set_option maxRecDepth 20000 in
theorem gX7_turn_X7_record : GoodIn wsX7_turn (wsV RX7 117 RX7 yX7_record wsX7_record) := goodIn_app (goodIn_of _ (by decide +kernel)) ggX7_turn_X7_record
set_option maxRecDepth 20000 in
theorem ggX7_turn_X7_at : GoodIn wsX7_turn wsX7_at := goodIn_r _ [16, 1, 17, 18, 19, 20, 21, 22, 23, 24, 25, 26, 27, 28, 29, 30, 31, 32, 33] (by decide +kernel) (by decide +kernel)
set_option maxRecDepth 20000 in
theorem gX7_turn_X7_at : GoodIn wsX7_turn (wsV RX7 51 RX7 yX7_at wsX7_at) := goodIn_app (goodIn_of _ (by decide +kernel)) ggX7_turn_X7_at
theorem dX7_turn_0 : decode cX7_turn 0 = .ok (.iload_n 1, 1) := by decide +kernel
theorem dX7_turn_1 : decode cX7_turn 1 = .ok (.iconst 0, 1) := by decide +kernel
theorem dX7_turn_2 : decode cX7_turn 2 = .ok (.aload_n 0, 1) := by decide +kernel
theorem dX7_turn_3 : decode cX7_turn 3 = .ok (.getfield 7, 3) := by decide +kernel
theorem dX7_turn_6 : decode cX7_turn 6 = .ok (.iconst 0, 1) := by decide +kernel
theorem dX7_turn_7 : decode cX7_turn 7 = .ok (.iaload, 1) := by decide +kernel
theorem dX7_turn_8 : decode cX7_turn 8 = .ok (.invokestatic 47, 3) := by decide +kernel
theorem dX7_turn_11 : decode cX7_turn 11 = .ok (.ifCond .ne 5, 3) := by decide +kernel
theorem dX7_turn_14 : decode cX7_turn 14 = .ok (.iconst (-1), 1) := by decide +kernel
theorem dX7_turn_15 : decode cX7_turn 15 = .ok (.ireturn, 1) := by decide +kernel
theorem dX7_turn_16 : decode cX7_turn 16 = .ok (.aload_n 0, 1) := by decide +kernel
theorem dX7_turn_17 : decode cX7_turn 17 = .ok (.invokevirtual 117, 3) := by decide +kernel
theorem dX7_turn_20 : decode cX7_turn 20 = .ok (.aload_n 0, 1) := by decide +kernel
theorem dX7_turn_21 : decode cX7_turn 21 = .ok (.getfield 7, 3) := by decide +kernel
theorem dX7_turn_24 : decode cX7_turn 24 = .ok (.iconst 0, 1) := by decide +kernel
theorem dX7_turn_25 : decode cX7_turn 25 = .ok (.iaload, 1) := by decide +kernel
theorem dX7_turn_26 : decode cX7_turn 26 = .ok (.istore_n 2, 1) := by decide +kernel
theorem dX7_turn_27 : decode cX7_turn 27 = .ok (.iconst 0, 1) := by decide +kernel
theorem dX7_turn_28 : decode cX7_turn 28 = .ok (.istore_n 3, 1) := by decide +kernel
theorem dX7_turn_29 : decode cX7_turn 29 = .ok (.iconst 0, 1) := by decide +kernel
theorem dX7_turn_30 : decode cX7_turn 30 = .ok (.istore 4, 2) := by decide +kernel
theorem dX7_turn_32 : decode cX7_turn 32 = .ok (.iload 4, 2) := by decide +kernel
theorem dX7_turn_34 : decode cX7_turn 34 = .ok (.iload_n 2, 1) := by decide +kernel
theorem dX7_turn_35 : decode cX7_turn 35 = .ok (.if_icmp .ge 22, 3) := by decide +kernel
theorem dX7_turn_38 : decode cX7_turn 38 = .ok (.aload_n 0, 1) := by decide +kernel
theorem dX7_turn_39 : decode cX7_turn 39 = .ok (.getfield 32, 3) := by decide +kernel
theorem dX7_turn_42 : decode cX7_turn 42 = .ok (.iload 4, 2) := by decide +kernel
theorem dX7_turn_44 : decode cX7_turn 44 = .ok (.aload_n 0, 1) := by decide +kernel
theorem dX7_turn_45 : decode cX7_turn 45 = .ok (.iload 4, 2) := by decide +kernel
theorem dX7_turn_47 : decode cX7_turn 47 = .ok (.invokevirtual 51, 3) := by decide +kernel
theorem dX7_turn_50 : decode cX7_turn 50 = .ok (.iastore, 1) := by decide +kernel
theorem dX7_turn_51 : decode cX7_turn 51 = .ok (.iinc 4 1, 3) := by decide +kernel
theorem dX7_turn_54 : decode cX7_turn 54 = .ok (.goto (-22), 3) := by decide +kernel
theorem dX7_turn_57 : decode cX7_turn 57 = .ok (.iconst 0, 1) := by decide +kernel
theorem dX7_turn_58 : decode cX7_turn 58 = .ok (.istore 4, 2) := by decide +kernel
theorem dX7_turn_60 : decode cX7_turn 60 = .ok (.iload 4, 2) := by decide +kernel
theorem dX7_turn_62 : decode cX7_turn 62 = .ok (.iload_n 2, 1) := by decide +kernel
theorem dX7_turn_63 : decode cX7_turn 63 = .ok (.if_icmp .ge 53, 3) := by decide +kernel
theorem dX7_turn_66 : decode cX7_turn 66 = .ok (.aload_n 0, 1) := by decide +kernel
theorem dX7_turn_67 : decode cX7_turn 67 = .ok (.getfield 7, 3) := by decide +kernel
theorem dX7_turn_70 : decode cX7_turn 70 = .ok (.iconst 2, 1) := by decide +kernel
theorem dX7_turn_71 : decode cX7_turn 71 = .ok (.iload 4, 2) := by decide +kernel
theorem dX7_turn_73 : decode cX7_turn 73 = .ok (.iadd, 1) := by decide +kernel
theorem dX7_turn_74 : decode cX7_turn 74 = .ok (.aload_n 0, 1) := by decide +kernel
theorem dX7_turn_75 : decode cX7_turn 75 = .ok (.getfield 32, 3) := by decide +kernel
theorem dX7_turn_78 : decode cX7_turn 78 = .ok (.iload 4, 2) := by decide +kernel
theorem dX7_turn_80 : decode cX7_turn 80 = .ok (.iload_n 1, 1) := by decide +kernel
theorem dX7_turn_81 : decode cX7_turn 81 = .ok (.iadd, 1) := by decide +kernel
theorem dX7_turn_82 : decode cX7_turn 82 = .ok (.iload_n 2, 1) := by decide +kernel
theorem dX7_turn_83 : decode cX7_turn 83 = .ok (.irem, 1) := by decide +kernel
theorem dX7_turn_84 : decode cX7_turn 84 = .ok (.iaload, 1) := by decide +kernel
theorem dX7_turn_85 : decode cX7_turn 85 = .ok (.iastore, 1) := by decide +kernel
theorem dX7_turn_86 : decode cX7_turn 86 = .ok (.iload_n 3, 1) := by decide +kernel
theorem dX7_turn_87 : decode cX7_turn 87 = .ok (.aload_n 0, 1) := by decide +kernel
theorem dX7_turn_88 : decode cX7_turn 88 = .ok (.iload 4, 2) := by decide +kernel
theorem dX7_turn_90 : decode cX7_turn 90 = .ok (.invokevirtual 51, 3) := by decide +kernel
theorem dX7_turn_93 : decode cX7_turn 93 = .ok (.aload_n 0, 1) := by decide +kernel
theorem dX7_turn_94 : decode cX7_turn 94 = .ok (.getfield 32, 3) := by decide +kernel
theorem dX7_turn_97 : decode cX7_turn 97 = .ok (.iload 4, 2) := by decide +kernel
theorem dX7_turn_99 : decode cX7_turn 99 = .ok (.iaload, 1) := by decide +kernel
theorem dX7_turn_100 : decode cX7_turn 100 = .ok (.if_icmp .ne 7, 3) := by decide +kernel
theorem dX7_turn_103 : decode cX7_turn 103 = .ok (.iconst 0, 1) := by decide +kernel
theorem dX7_turn_104 : decode cX7_turn 104 = .ok (.goto 4, 3) := by decide +kernel
theorem dX7_turn_107 : decode cX7_turn 107 = .ok (.iconst 1, 1) := by decide +kernel
theorem dX7_turn_108 : decode cX7_turn 108 = .ok (.iadd, 1) := by decide +kernel
theorem dX7_turn_109 : decode cX7_turn 109 = .ok (.istore_n 3, 1) := by decide +kernel
theorem dX7_turn_110 : decode cX7_turn 110 = .ok (.iinc 4 1, 3) := by decide +kernel
theorem dX7_turn_113 : decode cX7_turn 113 = .ok (.goto (-53), 3) := by decide +kernel
theorem dX7_turn_116 : decode cX7_turn 116 = .ok (.iload_n 3, 1) := by decide +kernel
theorem dX7_turn_117 : decode cX7_turn 117 = .ok (.ireturn, 1) := by decide +kernel
set_option maxRecDepth 20000 in
theorem ggX7_lean_X7_record : GoodIn wsX7_lean wsX7_record := goodIn_r _ [6, 7, 8, 1, 32, 33, 34, 35, 36, 37, 38, 39, 40, 41, 42, 43, 44, 45, 46, 47, 48] (by decide +kernel) (by decide +kernel)
set_option maxRecDepth 20000 in
theorem gX7_lean_X7_record : GoodIn wsX7_lean (wsV RX7 117 RX7 yX7_record wsX7_record) := goodIn_app (goodIn_of _ (by decide +kernel)) ggX7_lean_X7_record
set_option maxRecDepth 20000 in
theorem ggX7_lean_X7_ornament : GoodIn wsX7_lean wsX7_ornament := goodIn_r _ [12, 13, 14, 15, 5, 16, 17, 18, 19, 20, 1, 32, 33, 34, 35, 36, 37, 38, 39, 40, 41, 42, 43, 44, 45, 46, 47, 48] (by decide +kernel) (by decide +kernel)
set_option maxRecDepth 20000 in
theorem gX7_lean_X7_ornament : GoodIn wsX7_lean (wsV RX7 63 RX7 yX7_ornament wsX7_ornament) := goodIn_app (goodIn_of _ (by decide +kernel)) ggX7_lean_X7_ornament
set_option maxRecDepth 20000 in
theorem ggX7_lean_X7_hand : GoodIn wsX7_lean wsX7_hand := goodIn_r _ [24, 17, 18, 19, 5, 20, 1, 32, 33, 34, 35, 36, 37, 38, 39, 40, 41, 42, 43, 44, 45, 46, 47, 48] (by decide +kernel) (by decide +kernel)
set_option maxRecDepth 20000 in
theorem gX7_lean_X7_hand : GoodIn wsX7_lean (wsV RX7 80 RX7 yX7_hand wsX7_hand) := goodIn_app (goodIn_of _ (by decide +kernel)) ggX7_lean_X7_hand
set_option maxRecDepth 20000 in
theorem ggX7_lean_X7_accent : GoodIn wsX7_lean wsX7_accent := goodIn_r _ [28, 13, 14, 15, 5, 16, 17, 18, 19, 20, 1, 32, 33, 34, 35, 36, 37, 38, 39, 40, 41, 42, 43, 44, 45, 46, 47, 48] (by decide +kernel) (by decide +kernel)
set_option maxRecDepth 20000 in
theorem gX7_lean_X7_accent : GoodIn wsX7_lean (wsV RX7 66 RX7 yX7_accent wsX7_accent) := goodIn_app (goodIn_of _ (by decide +kernel)) ggX7_lean_X7_accent
set_option maxRecDepth 20000 in
theorem ggX7_lean_X7_code : GoodIn wsX7_lean wsX7_code := goodIn_r _ [31] (by decide +kernel) (by decide +kernel)
set_option maxRecDepth 20000 in
theorem gX7_lean_X7_code : GoodIn wsX7_lean (va_wsS RX7 120 yX7_code wsX7_code) := goodIn_app (goodIn_of _ (by decide +kernel)) ggX7_lean_X7_code
theorem dX7_lean_0 : decode cX7_lean 0 = .ok (.aload_n 0, 1) := by decide +kernel
theorem dX7_lean_1 : decode cX7_lean 1 = .ok (.invokevirtual 117, 3) := by decide +kernel
theorem dX7_lean_4 : decode cX7_lean 4 = .ok (.iload_n 1, 1) := by decide +kernel
theorem dX7_lean_5 : decode cX7_lean 5 = .ok (.ifCond .eq 7, 3) := by decide +kernel
theorem dX7_lean_8 : decode cX7_lean 8 = .ok (.iconst 1, 1) := by decide +kernel
theorem dX7_lean_9 : decode cX7_lean 9 = .ok (.goto 4, 3) := by decide +kernel
theorem dX7_lean_12 : decode cX7_lean 12 = .ok (.iconst 2, 1) := by decide +kernel
theorem dX7_lean_13 : decode cX7_lean 13 = .ok (.istore_n 2, 1) := by decide +kernel
theorem dX7_lean_14 : decode cX7_lean 14 = .ok (.iconst 0, 1) := by decide +kernel
theorem dX7_lean_15 : decode cX7_lean 15 = .ok (.istore_n 3, 1) := by decide +kernel
theorem dX7_lean_16 : decode cX7_lean 16 = .ok (.iconst 0, 1) := by decide +kernel
theorem dX7_lean_17 : decode cX7_lean 17 = .ok (.istore 4, 2) := by decide +kernel
theorem dX7_lean_19 : decode cX7_lean 19 = .ok (.iload 4, 2) := by decide +kernel
theorem dX7_lean_21 : decode cX7_lean 21 = .ok (.aload_n 0, 1) := by decide +kernel
theorem dX7_lean_22 : decode cX7_lean 22 = .ok (.getfield 7, 3) := by decide +kernel
theorem dX7_lean_25 : decode cX7_lean 25 = .ok (.iconst 0, 1) := by decide +kernel
theorem dX7_lean_26 : decode cX7_lean 26 = .ok (.iaload, 1) := by decide +kernel
theorem dX7_lean_27 : decode cX7_lean 27 = .ok (.if_icmp .ge 49, 3) := by decide +kernel
theorem dX7_lean_30 : decode cX7_lean 30 = .ok (.aload_n 0, 1) := by decide +kernel
theorem dX7_lean_31 : decode cX7_lean 31 = .ok (.iload 4, 2) := by decide +kernel
theorem dX7_lean_33 : decode cX7_lean 33 = .ok (.invokevirtual 63, 3) := by decide +kernel
theorem dX7_lean_36 : decode cX7_lean 36 = .ok (.iload_n 2, 1) := by decide +kernel
theorem dX7_lean_37 : decode cX7_lean 37 = .ok (.if_icmp .ne 33, 3) := by decide +kernel
theorem dX7_lean_40 : decode cX7_lean 40 = .ok (.aload_n 0, 1) := by decide +kernel
theorem dX7_lean_41 : decode cX7_lean 41 = .ok (.getfield 7, 3) := by decide +kernel
theorem dX7_lean_44 : decode cX7_lean 44 = .ok (.iconst 2, 1) := by decide +kernel
theorem dX7_lean_45 : decode cX7_lean 45 = .ok (.iload 4, 2) := by decide +kernel
theorem dX7_lean_47 : decode cX7_lean 47 = .ok (.iadd, 1) := by decide +kernel
theorem dX7_lean_48 : decode cX7_lean 48 = .ok (.aload_n 0, 1) := by decide +kernel
theorem dX7_lean_49 : decode cX7_lean 49 = .ok (.iload 4, 2) := by decide +kernel
theorem dX7_lean_51 : decode cX7_lean 51 = .ok (.invokevirtual 80, 3) := by decide +kernel
theorem dX7_lean_54 : decode cX7_lean 54 = .ok (.aload_n 0, 1) := by decide +kernel
theorem dX7_lean_55 : decode cX7_lean 55 = .ok (.iload 4, 2) := by decide +kernel
theorem dX7_lean_57 : decode cX7_lean 57 = .ok (.invokevirtual 66, 3) := by decide +kernel
theorem dX7_lean_60 : decode cX7_lean 60 = .ok (.iconst 3, 1) := by decide +kernel
theorem dX7_lean_61 : decode cX7_lean 61 = .ok (.iload_n 2, 1) := by decide +kernel
theorem dX7_lean_62 : decode cX7_lean 62 = .ok (.isub, 1) := by decide +kernel
theorem dX7_lean_63 : decode cX7_lean 63 = .ok (.invokestatic 120, 3) := by decide +kernel
theorem dX7_lean_66 : decode cX7_lean 66 = .ok (.iastore, 1) := by decide +kernel
theorem dX7_lean_67 : decode cX7_lean 67 = .ok (.iinc 3 1, 3) := by decide +kernel
theorem dX7_lean_70 : decode cX7_lean 70 = .ok (.iinc 4 1, 3) := by decide +kernel
theorem dX7_lean_73 : decode cX7_lean 73 = .ok (.goto (-54), 3) := by decide +kernel
theorem dX7_lean_76 : decode cX7_lean 76 = .ok (.iload_n 3, 1) := by decide +kernel
theorem dX7_lean_77 : decode cX7_lean 77 = .ok (.ireturn, 1) := by decide +kernel
set_option maxRecDepth 20000 in
theorem ggX7_set_X7_in : GoodIn wsX7_set wsX7_in := goodIn_r _ [5] (by decide +kernel) (by decide +kernel)
set_option maxRecDepth 20000 in
theorem gX7_set_X7_in : GoodIn wsX7_set (va_wsS RX7 47 yX7_in wsX7_in) := goodIn_app (goodIn_of _ (by decide +kernel)) ggX7_set_X7_in
set_option maxRecDepth 20000 in
theorem ggX7_set_X7_record : GoodIn wsX7_set wsX7_record := goodIn_r _ [9, 10, 11, 1, 12, 13, 14, 15, 16, 17, 18, 19, 20, 21, 22, 23, 24, 25, 26, 27, 28] (by decide +kernel) (by decide +kernel)
set_option maxRecDepth 20000 in
theorem gX7_set_X7_record : GoodIn wsX7_set (wsV RX7 117 RX7 yX7_record wsX7_record) := goodIn_app (goodIn_of _ (by decide +kernel)) ggX7_set_X7_record
theorem dX7_set_0 : decode cX7_set 0 = .ok (.iload_n 1, 1) := by decide +kernel
theorem dX7_set_1 : decode cX7_set 1 = .ok (.iconst 1, 1) := by decide +kernel
theorem dX7_set_2 : decode cX7_set 2 = .ok (.iconst 4, 1) := by decide +kernel
theorem dX7_set_3 : decode cX7_set 3 = .ok (.invokestatic 47, 3) := by decide +kernel
theorem dX7_set_6 : decode cX7_set 6 = .ok (.ifCond .ne 5, 3) := by decide +kernel
theorem dX7_set_9 : decode cX7_set 9 = .ok (.iconst (-1), 1) := by decide +kernel
theorem dX7_set_10 : decode cX7_set 10 = .ok (.ireturn, 1) := by decide +kernel
theorem dX7_set_11 : decode cX7_set 11 = .ok (.aload_n 0, 1) := by decide +kernel
theorem dX7_set_12 : decode cX7_set 12 = .ok (.invokevirtual 117, 3) := by decide +kernel
theorem dX7_set_15 : decode cX7_set 15 = .ok (.aload_n 0, 1) := by decide +kernel
theorem dX7_set_16 : decode cX7_set 16 = .ok (.getfield 7, 3) := by decide +kernel
theorem dX7_set_19 : decode cX7_set 19 = .ok (.iconst 1, 1) := by decide +kernel
theorem dX7_set_20 : decode cX7_set 20 = .ok (.iaload, 1) := by decide +kernel
theorem dX7_set_21 : decode cX7_set 21 = .ok (.istore_n 2, 1) := by decide +kernel
theorem dX7_set_22 : decode cX7_set 22 = .ok (.aload_n 0, 1) := by decide +kernel
theorem dX7_set_23 : decode cX7_set 23 = .ok (.getfield 7, 3) := by decide +kernel
theorem dX7_set_26 : decode cX7_set 26 = .ok (.iconst 1, 1) := by decide +kernel
theorem dX7_set_27 : decode cX7_set 27 = .ok (.iload_n 1, 1) := by decide +kernel
theorem dX7_set_28 : decode cX7_set 28 = .ok (.iastore, 1) := by decide +kernel
theorem dX7_set_29 : decode cX7_set 29 = .ok (.iload_n 2, 1) := by decide +kernel
theorem dX7_set_30 : decode cX7_set 30 = .ok (.ireturn, 1) := by decide +kernel
set_option maxRecDepth 20000 in
theorem ggX7_decide_X7_stick : GoodIn wsX7_decide wsX7_stick := goodIn_r _ [7, 1, 2, 8, 9, 10, 11, 6, 12, 13, 14, 15, 16, 17, 18, 19, 20, 21, 22, 23, 24, 25, 26, 27, 28, 29, 30, 31, 32, 33, 34, 35, 36, 37, 38, 39, 40, 41, 42, 43, 44, 45, 46, 47, 48, 49, 50, 51, 52, 53, 54, 55, 56, 57, 58, 59, 60, 61, 75, 76, 77, 78, 79, 80, 81, 82, 83, 84, 85, 86, 87, 88, 89, 90, 91] (by decide +kernel) (by decide +kernel)
set_option maxRecDepth 20000 in
theorem gX7_decide_X7_stick : GoodIn wsX7_decide (wsV RX7 129 RX7 yX7_stick wsX7_stick) := goodIn_app (goodIn_of _ (by decide +kernel)) ggX7_decide_X7_stick
set_option maxRecDepth 20000 in
theorem ggX7_decide_X7_record : GoodIn wsX7_decide wsX7_record := goodIn_r _ [65, 66, 67, 1, 75, 76, 77, 78, 79, 80, 81, 82, 83, 84, 85, 86, 87, 88, 89, 90, 91] (by decide +kernel) (by decide +kernel)
set_option maxRecDepth 20000 in
theorem gX7_decide_X7_record : GoodIn wsX7_decide (wsV RX7 117 RX7 yX7_record wsX7_record) := goodIn_app (goodIn_of _ (by decide +kernel)) ggX7_decide_X7_record
set_option maxRecDepth 20000 in
theorem ggX7_decide_X7_isStroke : GoodIn wsX7_decide wsX7_isStroke := goodIn_r _ [29, 30, 31, 32, 6, 33, 1, 75, 76, 77, 78, 79, 80, 81, 82, 83, 84, 85, 86, 87, 88, 89, 90, 91] (by decide +kernel) (by decide +kernel)
set_option maxRecDepth 20000 in
theorem gX7_decide_X7_isStroke : GoodIn wsX7_decide (wsV RX7 55 RX7 yX7_isStroke wsX7_isStroke) := goodIn_app (goodIn_of _ (by decide +kernel)) ggX7_decide_X7_isStroke
set_option maxRecDepth 20000 in
theorem ggX7_decide_X7_hand : GoodIn wsX7_decide wsX7_hand := goodIn_r _ [61, 30, 31, 32, 6, 33, 1, 75, 76, 77, 78, 79, 80, 81, 82, 83, 84, 85, 86, 87, 88, 89, 90, 91] (by decide +kernel) (by decide +kernel)
set_option maxRecDepth 20000 in
theorem gX7_decide_X7_hand : GoodIn wsX7_decide (wsV RX7 80 RX7 yX7_hand wsX7_hand) := goodIn_app (goodIn_of _ (by decide +kernel)) ggX7_decide_X7_hand
set_option maxRecDepth 20000 in
theorem ggX7_decide_X7_accent : GoodIn wsX7_decide wsX7_accent := goodIn_r _ [71, 26, 27, 28, 6, 29, 30, 31, 32, 33, 1, 75, 76, 77, 78, 79, 80, 81, 82, 83, 84, 85, 86, 87, 88, 89, 90, 91] (by decide +kernel) (by decide +kernel)
set_option maxRecDepth 20000 in
theorem gX7_decide_X7_accent : GoodIn wsX7_decide (wsV RX7 66 RX7 yX7_accent wsX7_accent) := goodIn_app (goodIn_of _ (by decide +kernel)) ggX7_decide_X7_accent
set_option maxRecDepth 20000 in
theorem ggX7_decide_X7_ornament : GoodIn wsX7_decide wsX7_ornament := goodIn_r _ [37, 26, 27, 28, 6, 29, 30, 31, 32, 33, 1, 75, 76, 77, 78, 79, 80, 81, 82, 83, 84, 85, 86, 87, 88, 89, 90, 91] (by decide +kernel) (by decide +kernel)
set_option maxRecDepth 20000 in
theorem gX7_decide_X7_ornament : GoodIn wsX7_decide (wsV RX7 63 RX7 yX7_ornament wsX7_ornament) := goodIn_app (goodIn_of _ (by decide +kernel)) ggX7_decide_X7_ornament
set_option maxRecDepth 20000 in
theorem ggX7_decide_X7_code : GoodIn wsX7_decide wsX7_code := goodIn_r _ [74] (by decide +kernel) (by decide +kernel)
set_option maxRecDepth 20000 in
theorem gX7_decide_X7_code : GoodIn wsX7_decide (va_wsS RX7 120 yX7_code wsX7_code) := goodIn_app (goodIn_of _ (by decide +kernel)) ggX7_decide_X7_code
theorem dX7_decide_0 : decode cX7_decide 0 = .ok (.aload_n 0, 1) := by decide +kernel
theorem dX7_decide_1 : decode cX7_decide 1 = .ok (.iload_n 1, 1) := by decide +kernel
theorem dX7_decide_2 : decode cX7_decide 2 = .ok (.invokevirtual 129, 3) := by decide +kernel
theorem dX7_decide_5 : decode cX7_decide 5 = .ok (.ifCond .ne 6, 3) := by decide +kernel
theorem dX7_decide_8 : decode cX7_decide 8 = .ok (.bipush (-2), 2) := by decide +kernel
theorem dX7_decide_10 : decode cX7_decide 10 = .ok (.ireturn, 1) := by decide +kernel
theorem dX7_decide_11 : decode cX7_decide 11 = .ok (.aload_n 0, 1) := by decide +kernel
theorem dX7_decide_12 : decode cX7_decide 12 = .ok (.invokevirtual 117, 3) := by decide +kernel
theorem dX7_decide_15 : decode cX7_decide 15 = .ok (.iconst 0, 1) := by decide +kernel
theorem dX7_decide_16 : decode cX7_decide 16 = .ok (.istore_n 2, 1) := by decide +kernel
theorem dX7_decide_17 : decode cX7_decide 17 = .ok (.iconst 0, 1) := by decide +kernel
theorem dX7_decide_18 : decode cX7_decide 18 = .ok (.istore_n 3, 1) := by decide +kernel
theorem dX7_decide_19 : decode cX7_decide 19 = .ok (.iload_n 3, 1) := by decide +kernel
theorem dX7_decide_20 : decode cX7_decide 20 = .ok (.aload_n 0, 1) := by decide +kernel
theorem dX7_decide_21 : decode cX7_decide 21 = .ok (.getfield 7, 3) := by decide +kernel
theorem dX7_decide_24 : decode cX7_decide 24 = .ok (.iconst 0, 1) := by decide +kernel
theorem dX7_decide_25 : decode cX7_decide 25 = .ok (.iaload, 1) := by decide +kernel
theorem dX7_decide_26 : decode cX7_decide 26 = .ok (.if_icmp .ge 56, 3) := by decide +kernel
theorem dX7_decide_29 : decode cX7_decide 29 = .ok (.aload_n 0, 1) := by decide +kernel
theorem dX7_decide_30 : decode cX7_decide 30 = .ok (.iload_n 3, 1) := by decide +kernel
theorem dX7_decide_31 : decode cX7_decide 31 = .ok (.invokevirtual 55, 3) := by decide +kernel
theorem dX7_decide_34 : decode cX7_decide 34 = .ok (.ifCond .eq 42, 3) := by decide +kernel
theorem dX7_decide_37 : decode cX7_decide 37 = .ok (.aload_n 0, 1) := by decide +kernel
theorem dX7_decide_38 : decode cX7_decide 38 = .ok (.iload_n 3, 1) := by decide +kernel
theorem dX7_decide_39 : decode cX7_decide 39 = .ok (.invokevirtual 80, 3) := by decide +kernel
theorem dX7_decide_42 : decode cX7_decide 42 = .ok (.iconst 2, 1) := by decide +kernel
theorem dX7_decide_43 : decode cX7_decide 43 = .ok (.if_icmp .ne 33, 3) := by decide +kernel
theorem dX7_decide_46 : decode cX7_decide 46 = .ok (.aload_n 0, 1) := by decide +kernel
theorem dX7_decide_47 : decode cX7_decide 47 = .ok (.getfield 7, 3) := by decide +kernel
theorem dX7_decide_50 : decode cX7_decide 50 = .ok (.iconst 2, 1) := by decide +kernel
theorem dX7_decide_51 : decode cX7_decide 51 = .ok (.iload_n 3, 1) := by decide +kernel
theorem dX7_decide_52 : decode cX7_decide 52 = .ok (.iadd, 1) := by decide +kernel
theorem dX7_decide_53 : decode cX7_decide 53 = .ok (.aload_n 0, 1) := by decide +kernel
theorem dX7_decide_54 : decode cX7_decide 54 = .ok (.getfield 29, 3) := by decide +kernel
theorem dX7_decide_57 : decode cX7_decide 57 = .ok (.iload_n 3, 1) := by decide +kernel
theorem dX7_decide_58 : decode cX7_decide 58 = .ok (.iaload, 1) := by decide +kernel
theorem dX7_decide_59 : decode cX7_decide 59 = .ok (.aload_n 0, 1) := by decide +kernel
theorem dX7_decide_60 : decode cX7_decide 60 = .ok (.iload_n 3, 1) := by decide +kernel
theorem dX7_decide_61 : decode cX7_decide 61 = .ok (.invokevirtual 66, 3) := by decide +kernel
theorem dX7_decide_64 : decode cX7_decide 64 = .ok (.aload_n 0, 1) := by decide +kernel
theorem dX7_decide_65 : decode cX7_decide 65 = .ok (.iload_n 3, 1) := by decide +kernel
theorem dX7_decide_66 : decode cX7_decide 66 = .ok (.invokevirtual 63, 3) := by decide +kernel
theorem dX7_decide_69 : decode cX7_decide 69 = .ok (.invokestatic 120, 3) := by decide +kernel
theorem dX7_decide_72 : decode cX7_decide 72 = .ok (.iastore, 1) := by decide +kernel
theorem dX7_decide_73 : decode cX7_decide 73 = .ok (.iinc 2 1, 3) := by decide +kernel
theorem dX7_decide_76 : decode cX7_decide 76 = .ok (.iinc 3 1, 3) := by decide +kernel
theorem dX7_decide_79 : decode cX7_decide 79 = .ok (.goto (-60), 3) := by decide +kernel
theorem dX7_decide_82 : decode cX7_decide 82 = .ok (.iload_n 2, 1) := by decide +kernel
theorem dX7_decide_83 : decode cX7_decide 83 = .ok (.ireturn, 1) := by decide +kernel
set_option maxRecDepth 20000 in
theorem ggX7_append_X7_in : GoodIn wsX7_append wsX7_in := goodIn_r _ [6] (by decide +kernel) (by decide +kernel)
set_option maxRecDepth 20000 in
theorem gX7_append_X7_in : GoodIn wsX7_append (va_wsS RX7 47 yX7_in wsX7_in) := goodIn_app (goodIn_of _ (by decide +kernel)) ggX7_append_X7_in
theorem dX7_append_0 : decode cX7_append 0 = .ok (.iload_n 1, 1) := by decide +kernel
theorem dX7_append_1 : decode cX7_append 1 = .ok (.bipush 33, 2) := by decide +kernel
theorem dX7_append_3 : decode cX7_append 3 = .ok (.bipush 126, 2) := by decide +kernel
theorem dX7_append_5 : decode cX7_append 5 = .ok (.invokestatic 47, 3) := by decide +kernel
theorem dX7_append_8 : decode cX7_append 8 = .ok (.ifCond .ne 5, 3) := by decide +kernel
theorem dX7_append_11 : decode cX7_append 11 = .ok (.iconst (-1), 1) := by decide +kernel
theorem dX7_append_12 : decode cX7_append 12 = .ok (.ireturn, 1) := by decide +kernel
theorem dX7_append_13 : decode cX7_append 13 = .ok (.aload_n 0, 1) := by decide +kernel
theorem dX7_append_14 : decode cX7_append 14 = .ok (.getfield 133, 3) := by decide +kernel
theorem dX7_append_17 : decode cX7_append 17 = .ok (.bipush 60, 2) := by decide +kernel
theorem dX7_append_19 : decode cX7_append 19 = .ok (.if_icmp .ne 6, 3) := by decide +kernel
theorem dX7_append_22 : decode cX7_append 22 = .ok (.bipush (-3), 2) := by decide +kernel
theorem dX7_append_24 : decode cX7_append 24 = .ok (.ireturn, 1) := by decide +kernel
theorem dX7_append_25 : decode cX7_append 25 = .ok (.aload_n 0, 1) := by decide +kernel
theorem dX7_append_26 : decode cX7_append 26 = .ok (.getfield 19, 3) := by decide +kernel
theorem dX7_append_29 : decode cX7_append 29 = .ok (.aload_n 0, 1) := by decide +kernel
theorem dX7_append_30 : decode cX7_append 30 = .ok (.getfield 133, 3) := by decide +kernel
theorem dX7_append_33 : decode cX7_append 33 = .ok (.iload_n 1, 1) := by decide +kernel
theorem dX7_append_34 : decode cX7_append 34 = .ok (.iastore, 1) := by decide +kernel
theorem dX7_append_35 : decode cX7_append 35 = .ok (.aload_n 0, 1) := by decide +kernel
theorem dX7_append_36 : decode cX7_append 36 = .ok (.dup, 1) := by decide +kernel
theorem dX7_append_37 : decode cX7_append 37 = .ok (.getfield 133, 3) := by decide +kernel
theorem dX7_append_40 : decode cX7_append 40 = .ok (.iconst 1, 1) := by decide +kernel
theorem dX7_append_41 : decode cX7_append 41 = .ok (.iadd, 1) := by decide +kernel
theorem dX7_append_42 : decode cX7_append 42 = .ok (.putfield 133, 3) := by decide +kernel
theorem dX7_append_45 : decode cX7_append 45 = .ok (.aload_n 0, 1) := by decide +kernel
theorem dX7_append_46 : decode cX7_append 46 = .ok (.getfield 133, 3) := by decide +kernel
theorem dX7_append_49 : decode cX7_append 49 = .ok (.ireturn, 1) := by decide +kernel
theorem dX7_clear_0 : decode cX7_clear 0 = .ok (.aload_n 0, 1) := by decide +kernel
theorem dX7_clear_1 : decode cX7_clear 1 = .ok (.getfield 133, 3) := by decide +kernel
theorem dX7_clear_4 : decode cX7_clear 4 = .ok (.istore_n 1, 1) := by decide +kernel
theorem dX7_clear_5 : decode cX7_clear 5 = .ok (.aload_n 0, 1) := by decide +kernel
theorem dX7_clear_6 : decode cX7_clear 6 = .ok (.iconst 0, 1) := by decide +kernel
theorem dX7_clear_7 : decode cX7_clear 7 = .ok (.putfield 133, 3) := by decide +kernel
theorem dX7_clear_10 : decode cX7_clear 10 = .ok (.iload_n 1, 1) := by decide +kernel
theorem dX7_clear_11 : decode cX7_clear 11 = .ok (.ireturn, 1) := by decide +kernel
theorem dX7_handFor_0 : decode cX7_handFor 0 = .ok (.iload_n 0, 1) := by decide +kernel
theorem dX7_handFor_1 : decode cX7_handFor 1 = .ok (.bipush 82, 2) := by decide +kernel
theorem dX7_handFor_3 : decode cX7_handFor 3 = .ok (.if_icmp .ne 7, 3) := by decide +kernel
theorem dX7_handFor_6 : decode cX7_handFor 6 = .ok (.iconst 0, 1) := by decide +kernel
theorem dX7_handFor_7 : decode cX7_handFor 7 = .ok (.goto 25, 3) := by decide +kernel
theorem dX7_handFor_10 : decode cX7_handFor 10 = .ok (.iload_n 0, 1) := by decide +kernel
theorem dX7_handFor_11 : decode cX7_handFor 11 = .ok (.bipush 76, 2) := by decide +kernel
theorem dX7_handFor_13 : decode cX7_handFor 13 = .ok (.if_icmp .ne 7, 3) := by decide +kernel
theorem dX7_handFor_16 : decode cX7_handFor 16 = .ok (.iconst 1, 1) := by decide +kernel
theorem dX7_handFor_17 : decode cX7_handFor 17 = .ok (.goto 15, 3) := by decide +kernel
theorem dX7_handFor_20 : decode cX7_handFor 20 = .ok (.iload_n 0, 1) := by decide +kernel
theorem dX7_handFor_21 : decode cX7_handFor 21 = .ok (.bipush 120, 2) := by decide +kernel
theorem dX7_handFor_23 : decode cX7_handFor 23 = .ok (.if_icmp .ne 7, 3) := by decide +kernel
theorem dX7_handFor_26 : decode cX7_handFor 26 = .ok (.iconst 2, 1) := by decide +kernel
theorem dX7_handFor_27 : decode cX7_handFor 27 = .ok (.goto 5, 3) := by decide +kernel
theorem dX7_handFor_30 : decode cX7_handFor 30 = .ok (.bipush (-4), 2) := by decide +kernel
theorem dX7_handFor_32 : decode cX7_handFor 32 = .ok (.ireturn, 1) := by decide +kernel
theorem dX7_next_0 : decode cX7_next 0 = .ok (.iload_n 1, 1) := by decide +kernel
theorem dX7_next_1 : decode cX7_next 1 = .ok (.aload_n 0, 1) := by decide +kernel
theorem dX7_next_2 : decode cX7_next 2 = .ok (.getfield 133, 3) := by decide +kernel
theorem dX7_next_5 : decode cX7_next 5 = .ok (.if_icmp .ge 12, 3) := by decide +kernel
theorem dX7_next_8 : decode cX7_next 8 = .ok (.aload_n 0, 1) := by decide +kernel
theorem dX7_next_9 : decode cX7_next 9 = .ok (.getfield 19, 3) := by decide +kernel
theorem dX7_next_12 : decode cX7_next 12 = .ok (.iload_n 1, 1) := by decide +kernel
theorem dX7_next_13 : decode cX7_next 13 = .ok (.iaload, 1) := by decide +kernel
theorem dX7_next_14 : decode cX7_next 14 = .ok (.goto 4, 3) := by decide +kernel
theorem dX7_next_17 : decode cX7_next 17 = .ok (.iconst 0, 1) := by decide +kernel
theorem dX7_next_18 : decode cX7_next 18 = .ok (.ireturn, 1) := by decide +kernel
theorem dX7_tell_0 : decode cX7_tell 0 = .ok (.aload_n 0, 1) := by decide +kernel
theorem dX7_tell_1 : decode cX7_tell 1 = .ok (.getfield 136, 3) := by decide +kernel
theorem dX7_tell_4 : decode cX7_tell 4 = .ok (.bipush 32, 2) := by decide +kernel
theorem dX7_tell_6 : decode cX7_tell 6 = .ok (.if_icmp .gt 23, 3) := by decide +kernel
theorem dX7_tell_9 : decode cX7_tell 9 = .ok (.aload_n 0, 1) := by decide +kernel
theorem dX7_tell_10 : decode cX7_tell 10 = .ok (.getfield 35, 3) := by decide +kernel
theorem dX7_tell_13 : decode cX7_tell 13 = .ok (.aload_n 0, 1) := by decide +kernel
theorem dX7_tell_14 : decode cX7_tell 14 = .ok (.getfield 136, 3) := by decide +kernel
theorem dX7_tell_17 : decode cX7_tell 17 = .ok (.iload_n 1, 1) := by decide +kernel
theorem dX7_tell_18 : decode cX7_tell 18 = .ok (.iastore, 1) := by decide +kernel
theorem dX7_tell_19 : decode cX7_tell 19 = .ok (.aload_n 0, 1) := by decide +kernel
theorem dX7_tell_20 : decode cX7_tell 20 = .ok (.dup, 1) := by decide +kernel
theorem dX7_tell_21 : decode cX7_tell 21 = .ok (.getfield 136, 3) := by decide +kernel
theorem dX7_tell_24 : decode cX7_tell 24 = .ok (.iconst 1, 1) := by decide +kernel
theorem dX7_tell_25 : decode cX7_tell 25 = .ok (.iadd, 1) := by decide +kernel
theorem dX7_tell_26 : decode cX7_tell 26 = .ok (.putfield 136, 3) := by decide +kernel
theorem dX7_tell_29 : decode cX7_tell 29 = .ok (.return_, 1) := by decide +kernel
set_option maxRecDepth 20000 in
theorem ggX7_repeat_X7_tell : GoodIn wsX7_repeat wsX7_tell := goodIn_r _ [7, 1, 2, 8, 9, 10, 11, 12, 13, 14, 15, 16, 17, 18, 19, 20, 21, 22, 23, 24] (by decide +kernel) (by decide +kernel)
set_option maxRecDepth 20000 in
theorem gX7_repeat_X7_tell : GoodIn wsX7_repeat (wsV RX7 139 RX7 yX7_tell wsX7_tell) := goodIn_app (goodIn_of _ (by decide +kernel)) ggX7_repeat_X7_tell
theorem dX7_repeat_0 : decode cX7_repeat 0 = .ok (.aload_n 0, 1) := by decide +kernel
theorem dX7_repeat_1 : decode cX7_repeat 1 = .ok (.getfield 136, 3) := by decide +kernel
theorem dX7_repeat_4 : decode cX7_repeat 4 = .ok (.istore_n 3, 1) := by decide +kernel
theorem dX7_repeat_5 : decode cX7_repeat 5 = .ok (.iconst 1, 1) := by decide +kernel
theorem dX7_repeat_6 : decode cX7_repeat 6 = .ok (.istore 4, 2) := by decide +kernel
theorem dX7_repeat_8 : decode cX7_repeat 8 = .ok (.iload 4, 2) := by decide +kernel
theorem dX7_repeat_10 : decode cX7_repeat 10 = .ok (.iload_n 2, 1) := by decide +kernel
theorem dX7_repeat_11 : decode cX7_repeat 11 = .ok (.if_icmp .ge 35, 3) := by decide +kernel
theorem dX7_repeat_14 : decode cX7_repeat 14 = .ok (.iload_n 1, 1) := by decide +kernel
theorem dX7_repeat_15 : decode cX7_repeat 15 = .ok (.istore 5, 2) := by decide +kernel
theorem dX7_repeat_17 : decode cX7_repeat 17 = .ok (.iload 5, 2) := by decide +kernel
theorem dX7_repeat_19 : decode cX7_repeat 19 = .ok (.iload_n 3, 1) := by decide +kernel
theorem dX7_repeat_20 : decode cX7_repeat 20 = .ok (.if_icmp .ge 20, 3) := by decide +kernel
theorem dX7_repeat_23 : decode cX7_repeat 23 = .ok (.aload_n 0, 1) := by decide +kernel
theorem dX7_repeat_24 : decode cX7_repeat 24 = .ok (.aload_n 0, 1) := by decide +kernel
theorem dX7_repeat_25 : decode cX7_repeat 25 = .ok (.getfield 35, 3) := by decide +kernel
theorem dX7_repeat_28 : decode cX7_repeat 28 = .ok (.iload 5, 2) := by decide +kernel
theorem dX7_repeat_30 : decode cX7_repeat 30 = .ok (.iaload, 1) := by decide +kernel
theorem dX7_repeat_31 : decode cX7_repeat 31 = .ok (.invokevirtual 139, 3) := by decide +kernel
theorem dX7_repeat_34 : decode cX7_repeat 34 = .ok (.iinc 5 1, 3) := by decide +kernel
theorem dX7_repeat_37 : decode cX7_repeat 37 = .ok (.goto (-20), 3) := by decide +kernel
theorem dX7_repeat_40 : decode cX7_repeat 40 = .ok (.iinc 4 1, 3) := by decide +kernel
theorem dX7_repeat_43 : decode cX7_repeat 43 = .ok (.goto (-35), 3) := by decide +kernel
theorem dX7_repeat_46 : decode cX7_repeat 46 = .ok (.return_, 1) := by decide +kernel
set_option maxRecDepth 20000 in
theorem ggX7_readPiece_X7_tell : GoodIn wsX7_readPiece wsX7_tell := goodIn_r _ [10, 1, 11, 29, 30, 31, 32, 33, 34, 35, 36, 37, 38, 39, 40, 41, 42, 43, 44, 45] (by decide +kernel) (by decide +kernel)
set_option maxRecDepth 20000 in
theorem gX7_readPiece_X7_tell : GoodIn wsX7_readPiece (wsV RX7 139 RX7 yX7_tell wsX7_tell) := goodIn_app (goodIn_of _ (by decide +kernel)) ggX7_readPiece_X7_tell
set_option maxRecDepth 20000 in
theorem ggX7_readPiece_X7_in : GoodIn wsX7_readPiece wsX7_in := goodIn_r _ [14] (by decide +kernel) (by decide +kernel)
set_option maxRecDepth 20000 in
theorem gX7_readPiece_X7_in : GoodIn wsX7_readPiece (va_wsS RX7 47 yX7_in wsX7_in) := goodIn_app (goodIn_of _ (by decide +kernel)) ggX7_readPiece_X7_in
set_option maxRecDepth 20000 in
theorem ggX7_readPiece_X7_next : GoodIn wsX7_readPiece wsX7_next := goodIn_r _ [18, 2, 3, 29, 30, 31, 32, 33, 34, 35, 36, 37, 38, 39, 40, 41, 42, 43, 44, 45] (by decide +kernel) (by decide +kernel)
set_option maxRecDepth 20000 in
theorem gX7_readPiece_X7_next : GoodIn wsX7_readPiece (wsV RX7 142 RX7 yX7_next wsX7_next) := goodIn_app (goodIn_of _ (by decide +kernel)) ggX7_readPiece_X7_next
set_option maxRecDepth 20000 in
theorem ggX7_readPiece_X7_repeat : GoodIn wsX7_readPiece wsX7_repeat := goodIn_r _ [22, 1, 11, 6, 7, 8, 9, 10, 29, 30, 31, 32, 33, 34, 35, 36, 37, 38, 39, 40, 41, 42, 43, 44, 45] (by decide +kernel) (by decide +kernel)
set_option maxRecDepth 20000 in
theorem gX7_readPiece_X7_repeat : GoodIn wsX7_readPiece (wsV RX7 145 RX7 yX7_repeat wsX7_repeat) := goodIn_app (goodIn_of _ (by decide +kernel)) ggX7_readPiece_X7_repeat
set_option maxRecDepth 20000 in
theorem ggX7_readPiece_X7_handFor : GoodIn wsX7_readPiece wsX7_handFor := goodIn_r _ [25] (by decide +kernel) (by decide +kernel)
set_option maxRecDepth 20000 in
theorem gX7_readPiece_X7_handFor : GoodIn wsX7_readPiece (va_wsS RX7 148 yX7_handFor wsX7_handFor) := goodIn_app (goodIn_of _ (by decide +kernel)) ggX7_readPiece_X7_handFor
set_option maxRecDepth 20000 in
theorem ggX7_readPiece_X7_code : GoodIn wsX7_readPiece wsX7_code := goodIn_r _ [28] (by decide +kernel) (by decide +kernel)
set_option maxRecDepth 20000 in
theorem gX7_readPiece_X7_code : GoodIn wsX7_readPiece (va_wsS RX7 120 yX7_code wsX7_code) := goodIn_app (goodIn_of _ (by decide +kernel)) ggX7_readPiece_X7_code
theorem dX7_readPiece_0 : decode cX7_readPiece 0 = .ok (.iconst 0, 1) := by decide +kernel
theorem dX7_readPiece_1 : decode cX7_readPiece 1 = .ok (.istore_n 1, 1) := by decide +kernel
theorem dX7_readPiece_2 : decode cX7_readPiece 2 = .ok (.iconst 0, 1) := by decide +kernel
theorem dX7_readPiece_3 : decode cX7_readPiece 3 = .ok (.istore_n 2, 1) := by decide +kernel
theorem dX7_readPiece_4 : decode cX7_readPiece 4 = .ok (.iconst 0, 1) := by decide +kernel
theorem dX7_readPiece_5 : decode cX7_readPiece 5 = .ok (.istore_n 3, 1) := by decide +kernel
theorem dX7_readPiece_6 : decode cX7_readPiece 6 = .ok (.aload_n 0, 1) := by decide +kernel
theorem dX7_readPiece_7 : decode cX7_readPiece 7 = .ok (.iconst 0, 1) := by decide +kernel
theorem dX7_readPiece_8 : decode cX7_readPiece 8 = .ok (.putfield 136, 3) := by decide +kernel
theorem dX7_readPiece_11 : decode cX7_readPiece 11 = .ok (.iload_n 1, 1) := by decide +kernel
theorem dX7_readPiece_12 : decode cX7_readPiece 12 = .ok (.aload_n 0, 1) := by decide +kernel
theorem dX7_readPiece_13 : decode cX7_readPiece 13 = .ok (.getfield 133, 3) := by decide +kernel
theorem dX7_readPiece_16 : decode cX7_readPiece 16 = .ok (.if_icmp .ge 280, 3) := by decide +kernel
theorem dX7_readPiece_19 : decode cX7_readPiece 19 = .ok (.aload_n 0, 1) := by decide +kernel
theorem dX7_readPiece_20 : decode cX7_readPiece 20 = .ok (.getfield 19, 3) := by decide +kernel
theorem dX7_readPiece_23 : decode cX7_readPiece 23 = .ok (.iload_n 1, 1) := by decide +kernel
theorem dX7_readPiece_24 : decode cX7_readPiece 24 = .ok (.iaload, 1) := by decide +kernel
theorem dX7_readPiece_25 : decode cX7_readPiece 25 = .ok (.istore 4, 2) := by decide +kernel
theorem dX7_readPiece_27 : decode cX7_readPiece 27 = .ok (.iload 4, 2) := by decide +kernel
theorem dX7_readPiece_29 : decode cX7_readPiece 29 = .ok (.bipush 46, 2) := by decide +kernel
theorem dX7_readPiece_31 : decode cX7_readPiece 31 = .ok (.if_icmp .ne 16, 3) := by decide +kernel
theorem dX7_readPiece_34 : decode cX7_readPiece 34 = .ok (.aload_n 0, 1) := by decide +kernel
theorem dX7_readPiece_35 : decode cX7_readPiece 35 = .ok (.iconst 0, 1) := by decide +kernel
theorem dX7_readPiece_36 : decode cX7_readPiece 36 = .ok (.invokevirtual 139, 3) := by decide +kernel
theorem dX7_readPiece_39 : decode cX7_readPiece 39 = .ok (.iinc 1 1, 3) := by decide +kernel
theorem dX7_readPiece_42 : decode cX7_readPiece 42 = .ok (.iconst 1, 1) := by decide +kernel
theorem dX7_readPiece_43 : decode cX7_readPiece 43 = .ok (.istore_n 3, 1) := by decide +kernel
theorem dX7_readPiece_44 : decode cX7_readPiece 44 = .ok (.goto 249, 3) := by decide +kernel
theorem dX7_readPiece_47 : decode cX7_readPiece 47 = .ok (.iload 4, 2) := by decide +kernel
theorem dX7_readPiece_49 : decode cX7_readPiece 49 = .ok (.bipush 50, 2) := by decide +kernel
theorem dX7_readPiece_51 : decode cX7_readPiece 51 = .ok (.bipush 57, 2) := by decide +kernel
theorem dX7_readPiece_53 : decode cX7_readPiece 53 = .ok (.invokestatic 47, 3) := by decide +kernel
theorem dX7_readPiece_56 : decode cX7_readPiece 56 = .ok (.ifCond .eq 51, 3) := by decide +kernel
theorem dX7_readPiece_59 : decode cX7_readPiece 59 = .ok (.aload_n 0, 1) := by decide +kernel
theorem dX7_readPiece_60 : decode cX7_readPiece 60 = .ok (.iload_n 1, 1) := by decide +kernel
theorem dX7_readPiece_61 : decode cX7_readPiece 61 = .ok (.iconst 1, 1) := by decide +kernel
theorem dX7_readPiece_62 : decode cX7_readPiece 62 = .ok (.iadd, 1) := by decide +kernel
theorem dX7_readPiece_63 : decode cX7_readPiece 63 = .ok (.invokevirtual 142, 3) := by decide +kernel
theorem dX7_readPiece_66 : decode cX7_readPiece 66 = .ok (.bipush 40, 2) := by decide +kernel
theorem dX7_readPiece_68 : decode cX7_readPiece 68 = .ok (.if_icmp .eq 7, 3) := by decide +kernel
theorem dX7_readPiece_71 : decode cX7_readPiece 71 = .ok (.iload_n 1, 1) := by decide +kernel
theorem dX7_readPiece_72 : decode cX7_readPiece 72 = .ok (.iconst 1, 1) := by decide +kernel
theorem dX7_readPiece_73 : decode cX7_readPiece 73 = .ok (.iadd, 1) := by decide +kernel
theorem dX7_readPiece_74 : decode cX7_readPiece 74 = .ok (.ireturn, 1) := by decide +kernel
theorem dX7_readPiece_75 : decode cX7_readPiece 75 = .ok (.aload_n 0, 1) := by decide +kernel
theorem dX7_readPiece_76 : decode cX7_readPiece 76 = .ok (.getfield 38, 3) := by decide +kernel
theorem dX7_readPiece_79 : decode cX7_readPiece 79 = .ok (.iload_n 2, 1) := by decide +kernel
theorem dX7_readPiece_80 : decode cX7_readPiece 80 = .ok (.aload_n 0, 1) := by decide +kernel
theorem dX7_readPiece_81 : decode cX7_readPiece 81 = .ok (.getfield 136, 3) := by decide +kernel
theorem dX7_readPiece_84 : decode cX7_readPiece 84 = .ok (.iastore, 1) := by decide +kernel
theorem dX7_readPiece_85 : decode cX7_readPiece 85 = .ok (.aload_n 0, 1) := by decide +kernel
theorem dX7_readPiece_86 : decode cX7_readPiece 86 = .ok (.getfield 41, 3) := by decide +kernel
theorem dX7_readPiece_89 : decode cX7_readPiece 89 = .ok (.iload_n 2, 1) := by decide +kernel
theorem dX7_readPiece_90 : decode cX7_readPiece 90 = .ok (.iload 4, 2) := by decide +kernel
theorem dX7_readPiece_92 : decode cX7_readPiece 92 = .ok (.bipush 48, 2) := by decide +kernel
theorem dX7_readPiece_94 : decode cX7_readPiece 94 = .ok (.isub, 1) := by decide +kernel
theorem dX7_readPiece_95 : decode cX7_readPiece 95 = .ok (.iastore, 1) := by decide +kernel
theorem dX7_readPiece_96 : decode cX7_readPiece 96 = .ok (.iinc 2 1, 3) := by decide +kernel
theorem dX7_readPiece_99 : decode cX7_readPiece 99 = .ok (.iinc 1 2, 3) := by decide +kernel
theorem dX7_readPiece_102 : decode cX7_readPiece 102 = .ok (.iconst 0, 1) := by decide +kernel
theorem dX7_readPiece_103 : decode cX7_readPiece 103 = .ok (.istore_n 3, 1) := by decide +kernel
theorem dX7_readPiece_104 : decode cX7_readPiece 104 = .ok (.goto 189, 3) := by decide +kernel
theorem dX7_readPiece_107 : decode cX7_readPiece 107 = .ok (.iload 4, 2) := by decide +kernel
theorem dX7_readPiece_109 : decode cX7_readPiece 109 = .ok (.bipush 41, 2) := by decide +kernel
theorem dX7_readPiece_111 : decode cX7_readPiece 111 = .ok (.if_icmp .ne 38, 3) := by decide +kernel
theorem dX7_readPiece_114 : decode cX7_readPiece 114 = .ok (.iload_n 2, 1) := by decide +kernel
theorem dX7_readPiece_115 : decode cX7_readPiece 115 = .ok (.ifCond .eq 7, 3) := by decide +kernel
theorem dX7_readPiece_118 : decode cX7_readPiece 118 = .ok (.iload_n 3, 1) := by decide +kernel
theorem dX7_readPiece_119 : decode cX7_readPiece 119 = .ok (.ifCond .ne 5, 3) := by decide +kernel
theorem dX7_readPiece_122 : decode cX7_readPiece 122 = .ok (.iload_n 1, 1) := by decide +kernel
theorem dX7_readPiece_123 : decode cX7_readPiece 123 = .ok (.ireturn, 1) := by decide +kernel
theorem dX7_readPiece_124 : decode cX7_readPiece 124 = .ok (.iinc 2 (-1), 3) := by decide +kernel
theorem dX7_readPiece_127 : decode cX7_readPiece 127 = .ok (.aload_n 0, 1) := by decide +kernel
theorem dX7_readPiece_128 : decode cX7_readPiece 128 = .ok (.aload_n 0, 1) := by decide +kernel
theorem dX7_readPiece_129 : decode cX7_readPiece 129 = .ok (.getfield 38, 3) := by decide +kernel
theorem dX7_readPiece_132 : decode cX7_readPiece 132 = .ok (.iload_n 2, 1) := by decide +kernel
theorem dX7_readPiece_133 : decode cX7_readPiece 133 = .ok (.iaload, 1) := by decide +kernel
theorem dX7_readPiece_134 : decode cX7_readPiece 134 = .ok (.aload_n 0, 1) := by decide +kernel
theorem dX7_readPiece_135 : decode cX7_readPiece 135 = .ok (.getfield 41, 3) := by decide +kernel
theorem dX7_readPiece_138 : decode cX7_readPiece 138 = .ok (.iload_n 2, 1) := by decide +kernel
theorem dX7_readPiece_139 : decode cX7_readPiece 139 = .ok (.iaload, 1) := by decide +kernel
theorem dX7_readPiece_140 : decode cX7_readPiece 140 = .ok (.invokevirtual 145, 3) := by decide +kernel
theorem dX7_readPiece_143 : decode cX7_readPiece 143 = .ok (.iinc 1 1, 3) := by decide +kernel
theorem dX7_readPiece_146 : decode cX7_readPiece 146 = .ok (.goto 147, 3) := by decide +kernel
theorem dX7_readPiece_149 : decode cX7_readPiece 149 = .ok (.iload 4, 2) := by decide +kernel
theorem dX7_readPiece_151 : decode cX7_readPiece 151 = .ok (.bipush 62, 2) := by decide +kernel
theorem dX7_readPiece_153 : decode cX7_readPiece 153 = .ok (.if_icmp .ne 7, 3) := by decide +kernel
theorem dX7_readPiece_156 : decode cX7_readPiece 156 = .ok (.iconst 1, 1) := by decide +kernel
theorem dX7_readPiece_157 : decode cX7_readPiece 157 = .ok (.goto 4, 3) := by decide +kernel
theorem dX7_readPiece_160 : decode cX7_readPiece 160 = .ok (.iconst 0, 1) := by decide +kernel
theorem dX7_readPiece_161 : decode cX7_readPiece 161 = .ok (.istore 5, 2) := by decide +kernel
theorem dX7_readPiece_163 : decode cX7_readPiece 163 = .ok (.iload_n 1, 1) := by decide +kernel
theorem dX7_readPiece_164 : decode cX7_readPiece 164 = .ok (.iload 5, 2) := by decide +kernel
theorem dX7_readPiece_166 : decode cX7_readPiece 166 = .ok (.iadd, 1) := by decide +kernel
theorem dX7_readPiece_167 : decode cX7_readPiece 167 = .ok (.istore_n 1, 1) := by decide +kernel
theorem dX7_readPiece_168 : decode cX7_readPiece 168 = .ok (.aload_n 0, 1) := by decide +kernel
theorem dX7_readPiece_169 : decode cX7_readPiece 169 = .ok (.iload_n 1, 1) := by decide +kernel
theorem dX7_readPiece_170 : decode cX7_readPiece 170 = .ok (.invokevirtual 142, 3) := by decide +kernel
theorem dX7_readPiece_173 : decode cX7_readPiece 173 = .ok (.bipush 102, 2) := by decide +kernel
theorem dX7_readPiece_175 : decode cX7_readPiece 175 = .ok (.if_icmp .ne 7, 3) := by decide +kernel
theorem dX7_readPiece_178 : decode cX7_readPiece 178 = .ok (.iconst 1, 1) := by decide +kernel
theorem dX7_readPiece_179 : decode cX7_readPiece 179 = .ok (.goto 18, 3) := by decide +kernel
theorem dX7_readPiece_182 : decode cX7_readPiece 182 = .ok (.aload_n 0, 1) := by decide +kernel
theorem dX7_readPiece_183 : decode cX7_readPiece 183 = .ok (.iload_n 1, 1) := by decide +kernel
theorem dX7_readPiece_184 : decode cX7_readPiece 184 = .ok (.invokevirtual 142, 3) := by decide +kernel
theorem dX7_readPiece_187 : decode cX7_readPiece 187 = .ok (.bipush 100, 2) := by decide +kernel
theorem dX7_readPiece_189 : decode cX7_readPiece 189 = .ok (.if_icmp .ne 7, 3) := by decide +kernel
theorem dX7_readPiece_192 : decode cX7_readPiece 192 = .ok (.iconst 2, 1) := by decide +kernel
theorem dX7_readPiece_193 : decode cX7_readPiece 193 = .ok (.goto 4, 3) := by decide +kernel
theorem dX7_readPiece_196 : decode cX7_readPiece 196 = .ok (.iconst 0, 1) := by decide +kernel
theorem dX7_readPiece_197 : decode cX7_readPiece 197 = .ok (.istore 6, 2) := by decide +kernel
theorem dX7_readPiece_199 : decode cX7_readPiece 199 = .ok (.iload_n 1, 1) := by decide +kernel
theorem dX7_readPiece_200 : decode cX7_readPiece 200 = .ok (.iload 6, 2) := by decide +kernel
theorem dX7_readPiece_202 : decode cX7_readPiece 202 = .ok (.ifCond .le 7, 3) := by decide +kernel
theorem dX7_readPiece_205 : decode cX7_readPiece 205 = .ok (.iconst 1, 1) := by decide +kernel
theorem dX7_readPiece_206 : decode cX7_readPiece 206 = .ok (.goto 4, 3) := by decide +kernel
theorem dX7_readPiece_209 : decode cX7_readPiece 209 = .ok (.iconst 0, 1) := by decide +kernel
theorem dX7_readPiece_210 : decode cX7_readPiece 210 = .ok (.iadd, 1) := by decide +kernel
theorem dX7_readPiece_211 : decode cX7_readPiece 211 = .ok (.istore_n 1, 1) := by decide +kernel
theorem dX7_readPiece_212 : decode cX7_readPiece 212 = .ok (.aload_n 0, 1) := by decide +kernel
theorem dX7_readPiece_213 : decode cX7_readPiece 213 = .ok (.iload_n 1, 1) := by decide +kernel
theorem dX7_readPiece_214 : decode cX7_readPiece 214 = .ok (.invokevirtual 142, 3) := by decide +kernel
theorem dX7_readPiece_217 : decode cX7_readPiece 217 = .ok (.invokestatic 148, 3) := by decide +kernel
theorem dX7_readPiece_220 : decode cX7_readPiece 220 = .ok (.istore 7, 2) := by decide +kernel
theorem dX7_readPiece_222 : decode cX7_readPiece 222 = .ok (.iload 7, 2) := by decide +kernel
theorem dX7_readPiece_224 : decode cX7_readPiece 224 = .ok (.bipush (-4), 2) := by decide +kernel
theorem dX7_readPiece_226 : decode cX7_readPiece 226 = .ok (.if_icmp .ne 5, 3) := by decide +kernel
theorem dX7_readPiece_229 : decode cX7_readPiece 229 = .ok (.iload_n 1, 1) := by decide +kernel
theorem dX7_readPiece_230 : decode cX7_readPiece 230 = .ok (.ireturn, 1) := by decide +kernel
theorem dX7_readPiece_231 : decode cX7_readPiece 231 = .ok (.iinc 1 1, 3) := by decide +kernel
theorem dX7_readPiece_234 : decode cX7_readPiece 234 = .ok (.iload 6, 2) := by decide +kernel
theorem dX7_readPiece_236 : decode cX7_readPiece 236 = .ok (.ifCond .ne 17, 3) := by decide +kernel
theorem dX7_readPiece_239 : decode cX7_readPiece 239 = .ok (.aload_n 0, 1) := by decide +kernel
theorem dX7_readPiece_240 : decode cX7_readPiece 240 = .ok (.iload_n 1, 1) := by decide +kernel
theorem dX7_readPiece_241 : decode cX7_readPiece 241 = .ok (.invokevirtual 142, 3) := by decide +kernel
theorem dX7_readPiece_244 : decode cX7_readPiece 244 = .ok (.bipush 42, 2) := by decide +kernel
theorem dX7_readPiece_246 : decode cX7_readPiece 246 = .ok (.if_icmp .ne 7, 3) := by decide +kernel
theorem dX7_readPiece_249 : decode cX7_readPiece 249 = .ok (.iconst 1, 1) := by decide +kernel
theorem dX7_readPiece_250 : decode cX7_readPiece 250 = .ok (.goto 4, 3) := by decide +kernel
theorem dX7_readPiece_253 : decode cX7_readPiece 253 = .ok (.iconst 0, 1) := by decide +kernel
theorem dX7_readPiece_254 : decode cX7_readPiece 254 = .ok (.istore 8, 2) := by decide +kernel
theorem dX7_readPiece_256 : decode cX7_readPiece 256 = .ok (.iload_n 1, 1) := by decide +kernel
theorem dX7_readPiece_257 : decode cX7_readPiece 257 = .ok (.iload 8, 2) := by decide +kernel
theorem dX7_readPiece_259 : decode cX7_readPiece 259 = .ok (.ifCond .eq 7, 3) := by decide +kernel
theorem dX7_readPiece_262 : decode cX7_readPiece 262 = .ok (.iconst 1, 1) := by decide +kernel
theorem dX7_readPiece_263 : decode cX7_readPiece 263 = .ok (.goto 4, 3) := by decide +kernel
theorem dX7_readPiece_266 : decode cX7_readPiece 266 = .ok (.iconst 0, 1) := by decide +kernel
theorem dX7_readPiece_267 : decode cX7_readPiece 267 = .ok (.iadd, 1) := by decide +kernel
theorem dX7_readPiece_268 : decode cX7_readPiece 268 = .ok (.istore_n 1, 1) := by decide +kernel
theorem dX7_readPiece_269 : decode cX7_readPiece 269 = .ok (.aload_n 0, 1) := by decide +kernel
theorem dX7_readPiece_270 : decode cX7_readPiece 270 = .ok (.iload 7, 2) := by decide +kernel
theorem dX7_readPiece_272 : decode cX7_readPiece 272 = .ok (.iload 5, 2) := by decide +kernel
theorem dX7_readPiece_274 : decode cX7_readPiece 274 = .ok (.iload 8, 2) := by decide +kernel
theorem dX7_readPiece_276 : decode cX7_readPiece 276 = .ok (.ifCond .eq 7, 3) := by decide +kernel
theorem dX7_readPiece_279 : decode cX7_readPiece 279 = .ok (.iconst 3, 1) := by decide +kernel
theorem dX7_readPiece_280 : decode cX7_readPiece 280 = .ok (.goto 5, 3) := by decide +kernel
theorem dX7_readPiece_283 : decode cX7_readPiece 283 = .ok (.iload 6, 2) := by decide +kernel
theorem dX7_readPiece_285 : decode cX7_readPiece 285 = .ok (.invokestatic 120, 3) := by decide +kernel
theorem dX7_readPiece_288 : decode cX7_readPiece 288 = .ok (.invokevirtual 139, 3) := by decide +kernel
theorem dX7_readPiece_291 : decode cX7_readPiece 291 = .ok (.iconst 1, 1) := by decide +kernel
theorem dX7_readPiece_292 : decode cX7_readPiece 292 = .ok (.istore_n 3, 1) := by decide +kernel
theorem dX7_readPiece_293 : decode cX7_readPiece 293 = .ok (.goto (-282), 3) := by decide +kernel
theorem dX7_readPiece_296 : decode cX7_readPiece 296 = .ok (.iload_n 2, 1) := by decide +kernel
theorem dX7_readPiece_297 : decode cX7_readPiece 297 = .ok (.ifCond .gt 7, 3) := by decide +kernel
theorem dX7_readPiece_300 : decode cX7_readPiece 300 = .ok (.iload_n 3, 1) := by decide +kernel
theorem dX7_readPiece_301 : decode cX7_readPiece 301 = .ok (.ifCond .ne 10, 3) := by decide +kernel
theorem dX7_readPiece_304 : decode cX7_readPiece 304 = .ok (.aload_n 0, 1) := by decide +kernel
theorem dX7_readPiece_305 : decode cX7_readPiece 305 = .ok (.getfield 133, 3) := by decide +kernel
theorem dX7_readPiece_308 : decode cX7_readPiece 308 = .ok (.goto 5, 3) := by decide +kernel
theorem dX7_readPiece_311 : decode cX7_readPiece 311 = .ok (.bipush (-4), 2) := by decide +kernel
theorem dX7_readPiece_313 : decode cX7_readPiece 313 = .ok (.ireturn, 1) := by decide +kernel
set_option maxRecDepth 20000 in
theorem ggX7_readPattern_X7_handFor : GoodIn wsX7_readPattern wsX7_handFor := goodIn_r _ [6] (by decide +kernel) (by decide +kernel)
set_option maxRecDepth 20000 in
theorem gX7_readPattern_X7_handFor : GoodIn wsX7_readPattern (va_wsS RX7 148 yX7_handFor wsX7_handFor) := goodIn_app (goodIn_of _ (by decide +kernel)) ggX7_readPattern_X7_handFor
theorem dX7_readPattern_0 : decode cX7_readPattern 0 = .ok (.iconst 0, 1) := by decide +kernel
theorem dX7_readPattern_1 : decode cX7_readPattern 1 = .ok (.istore_n 1, 1) := by decide +kernel
theorem dX7_readPattern_2 : decode cX7_readPattern 2 = .ok (.iload_n 1, 1) := by decide +kernel
theorem dX7_readPattern_3 : decode cX7_readPattern 3 = .ok (.aload_n 0, 1) := by decide +kernel
theorem dX7_readPattern_4 : decode cX7_readPattern 4 = .ok (.getfield 133, 3) := by decide +kernel
theorem dX7_readPattern_7 : decode cX7_readPattern 7 = .ok (.if_icmp .ge 36, 3) := by decide +kernel
theorem dX7_readPattern_10 : decode cX7_readPattern 10 = .ok (.aload_n 0, 1) := by decide +kernel
theorem dX7_readPattern_11 : decode cX7_readPattern 11 = .ok (.getfield 19, 3) := by decide +kernel
