set_option maxRecDepth 20000 in
theorem ggX6_init_X2_init : GoodIn wsX6_init wsX2_init := goodIn_r _ [30, 31, 2, 3, 32, 33, 34, 35, 85, 86, 87] (by decide +kernel) (by decide +kernel)
set_option maxRecDepth 20000 in
theorem gX6_init_X2_init : GoodIn wsX6_init (wsX2_init) := ggX6_init_X2_init
set_option maxRecDepth 20000 in
theorem ggX6_init_X0_init : GoodIn wsX6_init wsX0_init := goodIn_r _ [38, 39, 2, 3, 40, 41, 5, 6, 42, 43, 29, 30, 31, 32, 33, 34, 35, 97, 98, 85, 86, 87] (by decide +kernel) (by decide +kernel)
set_option maxRecDepth 20000 in
theorem gX6_init_X0_init : GoodIn wsX6_init (wsX0_init) := ggX6_init_X0_init
set_option maxRecDepth 20000 in
theorem ggX6_init_X1_init : GoodIn wsX6_init wsX1_init := goodIn_r _ [46, 47, 2, 3, 32, 48, 49, 99, 100] (by decide +kernel) (by decide +kernel)
set_option maxRecDepth 20000 in
theorem gX6_init_X1_init : GoodIn wsX6_init (wsX1_init) := ggX6_init_X1_init
set_option maxRecDepth 20000 in
theorem ggX6_init_X4_init : GoodIn wsX6_init wsX4_init := goodIn_r _ [52, 53, 2, 3, 32, 54, 55, 101, 102] (by decide +kernel) (by decide +kernel)
set_option maxRecDepth 20000 in
theorem gX6_init_X4_init : GoodIn wsX6_init (wsX4_init) := ggX6_init_X4_init
set_option maxRecDepth 20000 in
theorem ggX6_init_X3_init : GoodIn wsX6_init wsX3_init := goodIn_r _ [58, 59, 2, 3, 32, 60, 61, 62, 63, 64, 65, 66, 67, 68, 69, 24, 70, 71, 72, 73, 74, 75, 76, 77, 78, 79, 80, 81, 82, 83, 84, 103, 104, 105, 106, 107, 108, 109] (by decide +kernel) (by decide +kernel)
set_option maxRecDepth 20000 in
theorem gX6_init_X3_init : GoodIn wsX6_init (wsX3_init) := ggX6_init_X3_init
theorem dX6_init_0 : decode cX6_init 0 = .ok (.aload_n 0, 1) := by decide +kernel
theorem dX6_init_1 : decode cX6_init 1 = .ok (.invokespecial 1, 3) := by decide +kernel
theorem dX6_init_4 : decode cX6_init 4 = .ok (.aload_n 0, 1) := by decide +kernel
theorem dX6_init_5 : decode cX6_init 5 = .ok (.new 7, 3) := by decide +kernel
theorem dX6_init_8 : decode cX6_init 8 = .ok (.dup, 1) := by decide +kernel
theorem dX6_init_9 : decode cX6_init 9 = .ok (.invokespecial 9, 3) := by decide +kernel
theorem dX6_init_12 : decode cX6_init 12 = .ok (.putfield 10, 3) := by decide +kernel
theorem dX6_init_15 : decode cX6_init 15 = .ok (.aload_n 0, 1) := by decide +kernel
theorem dX6_init_16 : decode cX6_init 16 = .ok (.new 7, 3) := by decide +kernel
theorem dX6_init_19 : decode cX6_init 19 = .ok (.dup, 1) := by decide +kernel
theorem dX6_init_20 : decode cX6_init 20 = .ok (.invokespecial 9, 3) := by decide +kernel
theorem dX6_init_23 : decode cX6_init 23 = .ok (.putfield 16, 3) := by decide +kernel
theorem dX6_init_26 : decode cX6_init 26 = .ok (.aload_n 0, 1) := by decide +kernel
theorem dX6_init_27 : decode cX6_init 27 = .ok (.new 7, 3) := by decide +kernel
theorem dX6_init_30 : decode cX6_init 30 = .ok (.dup, 1) := by decide +kernel
theorem dX6_init_31 : decode cX6_init 31 = .ok (.invokespecial 9, 3) := by decide +kernel
theorem dX6_init_34 : decode cX6_init 34 = .ok (.putfield 19, 3) := by decide +kernel
theorem dX6_init_37 : decode cX6_init 37 = .ok (.aload_n 0, 1) := by decide +kernel
theorem dX6_init_38 : decode cX6_init 38 = .ok (.new 22, 3) := by decide +kernel
theorem dX6_init_41 : decode cX6_init 41 = .ok (.dup, 1) := by decide +kernel
theorem dX6_init_42 : decode cX6_init 42 = .ok (.invokespecial 24, 3) := by decide +kernel
theorem dX6_init_45 : decode cX6_init 45 = .ok (.putfield 25, 3) := by decide +kernel
theorem dX6_init_48 : decode cX6_init 48 = .ok (.aload_n 0, 1) := by decide +kernel
theorem dX6_init_49 : decode cX6_init 49 = .ok (.new 29, 3) := by decide +kernel
theorem dX6_init_52 : decode cX6_init 52 = .ok (.dup, 1) := by decide +kernel
theorem dX6_init_53 : decode cX6_init 53 = .ok (.invokespecial 31, 3) := by decide +kernel
theorem dX6_init_56 : decode cX6_init 56 = .ok (.putfield 32, 3) := by decide +kernel
theorem dX6_init_59 : decode cX6_init 59 = .ok (.aload_n 0, 1) := by decide +kernel
theorem dX6_init_60 : decode cX6_init 60 = .ok (.new 36, 3) := by decide +kernel
theorem dX6_init_63 : decode cX6_init 63 = .ok (.dup, 1) := by decide +kernel
theorem dX6_init_64 : decode cX6_init 64 = .ok (.invokespecial 38, 3) := by decide +kernel
theorem dX6_init_67 : decode cX6_init 67 = .ok (.putfield 39, 3) := by decide +kernel
theorem dX6_init_70 : decode cX6_init 70 = .ok (.aload_n 0, 1) := by decide +kernel
theorem dX6_init_71 : decode cX6_init 71 = .ok (.new 43, 3) := by decide +kernel
theorem dX6_init_74 : decode cX6_init 74 = .ok (.dup, 1) := by decide +kernel
theorem dX6_init_75 : decode cX6_init 75 = .ok (.invokespecial 45, 3) := by decide +kernel
theorem dX6_init_78 : decode cX6_init 78 = .ok (.putfield 46, 3) := by decide +kernel
theorem dX6_init_81 : decode cX6_init 81 = .ok (.aload_n 0, 1) := by decide +kernel
theorem dX6_init_82 : decode cX6_init 82 = .ok (.iconst 0, 1) := by decide +kernel
theorem dX6_init_83 : decode cX6_init 83 = .ok (.putfield 50, 3) := by decide +kernel
theorem dX6_init_86 : decode cX6_init 86 = .ok (.aload_n 0, 1) := by decide +kernel
theorem dX6_init_87 : decode cX6_init 87 = .ok (.iconst 0, 1) := by decide +kernel
theorem dX6_init_88 : decode cX6_init 88 = .ok (.putfield 54, 3) := by decide +kernel
theorem dX6_init_91 : decode cX6_init 91 = .ok (.return_, 1) := by decide +kernel
set_option maxRecDepth 20000 in
theorem ggX6_stroke_X2_hasGap : GoodIn wsX6_stroke wsX2_hasGap := goodIn_r _ [6, 7, 70, 71, 72] (by decide +kernel) (by decide +kernel)
set_option maxRecDepth 20000 in
theorem gX6_stroke_X2_hasGap : GoodIn wsX6_stroke (wsV RX6 58 RX2 yX2_hasGap wsX2_hasGap) := goodIn_app (goodIn_of _ (by decide +kernel)) ggX6_stroke_X2_hasGap
set_option maxRecDepth 20000 in
theorem ggX6_stroke_X6_isHand : GoodIn wsX6_stroke wsX6_isHand := goodIn_r _ [11] (by decide +kernel) (by decide +kernel)
set_option maxRecDepth 20000 in
theorem gX6_stroke_X6_isHand : GoodIn wsX6_stroke (va_wsS RX6 62 yX6_isHand wsX6_isHand) := goodIn_app (goodIn_of _ (by decide +kernel)) ggX6_stroke_X6_isHand
set_option maxRecDepth 20000 in
theorem ggX6_stroke_X6_isOrnament : GoodIn wsX6_stroke wsX6_isOrnament := goodIn_r _ [14] (by decide +kernel) (by decide +kernel)
set_option maxRecDepth 20000 in
theorem gX6_stroke_X6_isOrnament : GoodIn wsX6_stroke (va_wsS RX6 65 yX6_isOrnament wsX6_isOrnament) := goodIn_app (goodIn_of _ (by decide +kernel)) ggX6_stroke_X6_isOrnament
set_option maxRecDepth 20000 in
theorem ggX6_stroke_X5_of : GoodIn wsX6_stroke wsX5_of := goodIn_r _ [18] (by decide +kernel) (by decide +kernel)
set_option maxRecDepth 20000 in
theorem gX6_stroke_X5_of : GoodIn wsX6_stroke (va_wsS RX6 68 yX5_of wsX5_of) := goodIn_app (goodIn_of _ (by decide +kernel)) ggX6_stroke_X5_of
set_option maxRecDepth 20000 in
theorem ggX6_stroke_X6_write : GoodIn wsX6_stroke wsX6_write := goodIn_r _ [22, 23, 1, 24, 25, 26, 27, 28, 29, 30, 31, 32, 33, 34, 35, 36, 37, 5, 38, 39, 40, 41, 42, 43, 7, 44, 45, 46, 47, 48, 49, 50, 51, 52, 53, 54, 55, 56, 57, 58, 59, 60, 61, 62, 63, 64, 65, 66, 67, 68, 69, 70, 71, 72, 73, 74] (by decide +kernel) (by decide +kernel)
set_option maxRecDepth 20000 in
theorem gX6_stroke_X6_write : GoodIn wsX6_stroke (wsV RX6 74 RX6 yX6_write wsX6_write) := goodIn_app (goodIn_of _ (by decide +kernel)) ggX6_stroke_X6_write
theorem dX6_stroke_0 : decode cX6_stroke 0 = .ok (.aload_n 0, 1) := by decide +kernel
theorem dX6_stroke_1 : decode cX6_stroke 1 = .ok (.getfield 10, 3) := by decide +kernel
theorem dX6_stroke_4 : decode cX6_stroke 4 = .ok (.iload_n 1, 1) := by decide +kernel
theorem dX6_stroke_5 : decode cX6_stroke 5 = .ok (.invokevirtual 58, 3) := by decide +kernel
theorem dX6_stroke_8 : decode cX6_stroke 8 = .ok (.ifCond .eq 18, 3) := by decide +kernel
theorem dX6_stroke_11 : decode cX6_stroke 11 = .ok (.iload_n 2, 1) := by decide +kernel
theorem dX6_stroke_12 : decode cX6_stroke 12 = .ok (.invokestatic 62, 3) := by decide +kernel
theorem dX6_stroke_15 : decode cX6_stroke 15 = .ok (.ifCond .eq 11, 3) := by decide +kernel
theorem dX6_stroke_18 : decode cX6_stroke 18 = .ok (.iload 4, 2) := by decide +kernel
theorem dX6_stroke_20 : decode cX6_stroke 20 = .ok (.invokestatic 65, 3) := by decide +kernel
theorem dX6_stroke_23 : decode cX6_stroke 23 = .ok (.ifCond .ne 5, 3) := by decide +kernel
theorem dX6_stroke_26 : decode cX6_stroke 26 = .ok (.iconst (-1), 1) := by decide +kernel
theorem dX6_stroke_27 : decode cX6_stroke 27 = .ok (.ireturn, 1) := by decide +kernel
theorem dX6_stroke_28 : decode cX6_stroke 28 = .ok (.aload_n 0, 1) := by decide +kernel
theorem dX6_stroke_29 : decode cX6_stroke 29 = .ok (.iload_n 1, 1) := by decide +kernel
theorem dX6_stroke_30 : decode cX6_stroke 30 = .ok (.iload_n 2, 1) := by decide +kernel
theorem dX6_stroke_31 : decode cX6_stroke 31 = .ok (.iload_n 3, 1) := by decide +kernel
theorem dX6_stroke_32 : decode cX6_stroke 32 = .ok (.iload 4, 2) := by decide +kernel
theorem dX6_stroke_34 : decode cX6_stroke 34 = .ok (.invokestatic 68, 3) := by decide +kernel
theorem dX6_stroke_37 : decode cX6_stroke 37 = .ok (.invokevirtual 74, 3) := by decide +kernel
theorem dX6_stroke_40 : decode cX6_stroke 40 = .ok (.ireturn, 1) := by decide +kernel
set_option maxRecDepth 20000 in
theorem ggX6_rest_X2_hasGap : GoodIn wsX6_rest wsX2_hasGap := goodIn_r _ [6, 7, 60, 61, 62] (by decide +kernel) (by decide +kernel)
set_option maxRecDepth 20000 in
theorem gX6_rest_X2_hasGap : GoodIn wsX6_rest (wsV RX6 58 RX2 yX2_hasGap wsX2_hasGap) := goodIn_app (goodIn_of _ (by decide +kernel)) ggX6_rest_X2_hasGap
set_option maxRecDepth 20000 in
theorem ggX6_rest_X6_write : GoodIn wsX6_rest wsX6_write := goodIn_r _ [12, 13, 1, 14, 15, 16, 17, 18, 19, 20, 21, 22, 23, 24, 25, 26, 27, 5, 28, 29, 30, 31, 32, 33, 7, 34, 35, 36, 37, 38, 39, 40, 41, 42, 43, 44, 45, 46, 47, 48, 49, 50, 51, 52, 53, 54, 55, 56, 57, 58, 59, 60, 61, 62, 63, 64] (by decide +kernel) (by decide +kernel)
set_option maxRecDepth 20000 in
theorem gX6_rest_X6_write : GoodIn wsX6_rest (wsV RX6 74 RX6 yX6_write wsX6_write) := goodIn_app (goodIn_of _ (by decide +kernel)) ggX6_rest_X6_write
theorem dX6_rest_0 : decode cX6_rest 0 = .ok (.aload_n 0, 1) := by decide +kernel
theorem dX6_rest_1 : decode cX6_rest 1 = .ok (.getfield 10, 3) := by decide +kernel
theorem dX6_rest_4 : decode cX6_rest 4 = .ok (.iload_n 1, 1) := by decide +kernel
theorem dX6_rest_5 : decode cX6_rest 5 = .ok (.invokevirtual 58, 3) := by decide +kernel
theorem dX6_rest_8 : decode cX6_rest 8 = .ok (.ifCond .ne 5, 3) := by decide +kernel
theorem dX6_rest_11 : decode cX6_rest 11 = .ok (.iconst (-1), 1) := by decide +kernel
theorem dX6_rest_12 : decode cX6_rest 12 = .ok (.ireturn, 1) := by decide +kernel
theorem dX6_rest_13 : decode cX6_rest 13 = .ok (.aload_n 0, 1) := by decide +kernel
theorem dX6_rest_14 : decode cX6_rest 14 = .ok (.iload_n 1, 1) := by decide +kernel
theorem dX6_rest_15 : decode cX6_rest 15 = .ok (.iconst 0, 1) := by decide +kernel
theorem dX6_rest_16 : decode cX6_rest 16 = .ok (.invokevirtual 74, 3) := by decide +kernel
theorem dX6_rest_19 : decode cX6_rest 19 = .ok (.ireturn, 1) := by decide +kernel
set_option maxRecDepth 20000 in
theorem ggX6_put_X2_hasGap : GoodIn wsX6_put wsX2_hasGap := goodIn_r _ [7, 8, 62, 63, 64] (by decide +kernel) (by decide +kernel)
set_option maxRecDepth 20000 in
theorem gX6_put_X2_hasGap : GoodIn wsX6_put (wsV RX6 58 RX2 yX2_hasGap wsX2_hasGap) := goodIn_app (goodIn_of _ (by decide +kernel)) ggX6_put_X2_hasGap
set_option maxRecDepth 20000 in
theorem ggX6_put_X2_hasStep : GoodIn wsX6_put wsX2_hasStep := goodIn_r _ [12, 8, 62, 63, 64] (by decide +kernel) (by decide +kernel)
set_option maxRecDepth 20000 in
theorem gX6_put_X2_hasStep : GoodIn wsX6_put (wsV RX6 78 RX2 yX2_hasStep wsX2_hasStep) := goodIn_app (goodIn_of _ (by decide +kernel)) ggX6_put_X2_hasStep
set_option maxRecDepth 20000 in
theorem ggX6_put_X2_isFull : GoodIn wsX6_put wsX2_isFull := goodIn_r _ [16, 8, 17, 62, 63, 64] (by decide +kernel) (by decide +kernel)
set_option maxRecDepth 20000 in
theorem gX6_put_X2_isFull : GoodIn wsX6_put (wsV RX6 81 RX2 yX2_isFull wsX2_isFull) := goodIn_app (goodIn_of _ (by decide +kernel)) ggX6_put_X2_isFull
set_option maxRecDepth 20000 in
theorem ggX6_put_X0_remember : GoodIn wsX6_put wsX0_remember := goodIn_r _ [22, 23, 24, 25, 26, 27, 21, 28, 29, 30, 31, 6, 32, 33, 34, 35, 36, 37, 8, 17, 65, 66, 62, 63, 64] (by decide +kernel) (by decide +kernel)
set_option maxRecDepth 20000 in
theorem gX6_put_X0_remember : GoodIn wsX6_put (wsV RX6 85 RX0 yX0_remember wsX0_remember) := goodIn_app (goodIn_of _ (by decide +kernel)) ggX6_put_X0_remember
set_option maxRecDepth 20000 in
theorem ggX6_put_X2_at : GoodIn wsX6_put wsX2_at := goodIn_r _ [41, 17, 42, 10, 11, 6, 12, 8, 62, 63, 64] (by decide +kernel) (by decide +kernel)
set_option maxRecDepth 20000 in
theorem gX6_put_X2_at : GoodIn wsX6_put (wsV RX6 89 RX2 yX2_at wsX2_at) := goodIn_app (goodIn_of _ (by decide +kernel)) ggX6_put_X2_at
set_option maxRecDepth 20000 in
theorem ggX6_put_X2_insert : GoodIn wsX6_put wsX2_insert := goodIn_r _ [46, 8, 17, 47, 4, 5, 6, 7, 48, 49, 50, 51, 52, 14, 15, 16, 62, 63, 64] (by decide +kernel) (by decide +kernel)
set_option maxRecDepth 20000 in
theorem gX6_put_X2_insert : GoodIn wsX6_put (wsV RX6 93 RX2 yX2_insert wsX2_insert) := goodIn_app (goodIn_of _ (by decide +kernel)) ggX6_put_X2_insert
theorem dX6_put_0 : decode cX6_put 0 = .ok (.aload_n 0, 1) := by decide +kernel
theorem dX6_put_1 : decode cX6_put 1 = .ok (.getfield 10, 3) := by decide +kernel
theorem dX6_put_4 : decode cX6_put 4 = .ok (.iload_n 1, 1) := by decide +kernel
theorem dX6_put_5 : decode cX6_put 5 = .ok (.invokevirtual 58, 3) := by decide +kernel
theorem dX6_put_8 : decode cX6_put 8 = .ok (.ifCond .eq 14, 3) := by decide +kernel
theorem dX6_put_11 : decode cX6_put 11 = .ok (.aload_n 0, 1) := by decide +kernel
theorem dX6_put_12 : decode cX6_put 12 = .ok (.getfield 10, 3) := by decide +kernel
theorem dX6_put_15 : decode cX6_put 15 = .ok (.iload_n 2, 1) := by decide +kernel
theorem dX6_put_16 : decode cX6_put 16 = .ok (.invokevirtual 78, 3) := by decide +kernel
theorem dX6_put_19 : decode cX6_put 19 = .ok (.ifCond .ne 5, 3) := by decide +kernel
theorem dX6_put_22 : decode cX6_put 22 = .ok (.iconst (-1), 1) := by decide +kernel
theorem dX6_put_23 : decode cX6_put 23 = .ok (.ireturn, 1) := by decide +kernel
theorem dX6_put_24 : decode cX6_put 24 = .ok (.aload_n 0, 1) := by decide +kernel
theorem dX6_put_25 : decode cX6_put 25 = .ok (.getfield 10, 3) := by decide +kernel
theorem dX6_put_28 : decode cX6_put 28 = .ok (.invokevirtual 81, 3) := by decide +kernel
theorem dX6_put_31 : decode cX6_put 31 = .ok (.ifCond .eq 6, 3) := by decide +kernel
theorem dX6_put_34 : decode cX6_put 34 = .ok (.bipush (-3), 2) := by decide +kernel
theorem dX6_put_36 : decode cX6_put 36 = .ok (.ireturn, 1) := by decide +kernel
theorem dX6_put_37 : decode cX6_put 37 = .ok (.aload_n 0, 1) := by decide +kernel
theorem dX6_put_38 : decode cX6_put 38 = .ok (.getfield 25, 3) := by decide +kernel
theorem dX6_put_41 : decode cX6_put 41 = .ok (.aload_n 0, 1) := by decide +kernel
theorem dX6_put_42 : decode cX6_put 42 = .ok (.getfield 10, 3) := by decide +kernel
theorem dX6_put_45 : decode cX6_put 45 = .ok (.invokevirtual 85, 3) := by decide +kernel
theorem dX6_put_48 : decode cX6_put 48 = .ok (.aload_n 0, 1) := by decide +kernel
theorem dX6_put_49 : decode cX6_put 49 = .ok (.getfield 10, 3) := by decide +kernel
theorem dX6_put_52 : decode cX6_put 52 = .ok (.iload_n 1, 1) := by decide +kernel
theorem dX6_put_53 : decode cX6_put 53 = .ok (.aload_n 0, 1) := by decide +kernel
theorem dX6_put_54 : decode cX6_put 54 = .ok (.getfield 10, 3) := by decide +kernel
theorem dX6_put_57 : decode cX6_put 57 = .ok (.iload_n 2, 1) := by decide +kernel
theorem dX6_put_58 : decode cX6_put 58 = .ok (.invokevirtual 89, 3) := by decide +kernel
theorem dX6_put_61 : decode cX6_put 61 = .ok (.invokevirtual 93, 3) := by decide +kernel
theorem dX6_put_64 : decode cX6_put 64 = .ok (.aload_n 0, 1) := by decide +kernel
theorem dX6_put_65 : decode cX6_put 65 = .ok (.getfield 10, 3) := by decide +kernel
theorem dX6_put_68 : decode cX6_put 68 = .ok (.getfield 97, 3) := by decide +kernel
theorem dX6_put_71 : decode cX6_put 71 = .ok (.ireturn, 1) := by decide +kernel
set_option maxRecDepth 20000 in
theorem ggX6_cut_X2_hasStep : GoodIn wsX6_cut wsX2_hasStep := goodIn_r _ [7, 8, 44, 45, 46] (by decide +kernel) (by decide +kernel)
set_option maxRecDepth 20000 in
theorem gX6_cut_X2_hasStep : GoodIn wsX6_cut (wsV RX6 78 RX2 yX2_hasStep wsX2_hasStep) := goodIn_app (goodIn_of _ (by decide +kernel)) ggX6_cut_X2_hasStep
set_option maxRecDepth 20000 in
theorem ggX6_cut_X0_remember : GoodIn wsX6_cut wsX0_remember := goodIn_r _ [13, 14, 15, 16, 17, 18, 12, 19, 20, 21, 22, 6, 23, 24, 25, 26, 27, 28, 8, 29, 47, 48, 44, 45, 46] (by decide +kernel) (by decide +kernel)
set_option maxRecDepth 20000 in
theorem gX6_cut_X0_remember : GoodIn wsX6_cut (wsV RX6 85 RX0 yX0_remember wsX0_remember) := goodIn_app (goodIn_of _ (by decide +kernel)) ggX6_cut_X0_remember
set_option maxRecDepth 20000 in
theorem ggX6_cut_X2_remove : GoodIn wsX6_cut wsX2_remove := goodIn_r _ [33, 8, 29, 34, 4, 5, 6, 7, 44, 45, 46] (by decide +kernel) (by decide +kernel)
set_option maxRecDepth 20000 in
theorem gX6_cut_X2_remove : GoodIn wsX6_cut (wsV RX6 100 RX2 yX2_remove wsX2_remove) := goodIn_app (goodIn_of _ (by decide +kernel)) ggX6_cut_X2_remove
theorem dX6_cut_0 : decode cX6_cut 0 = .ok (.aload_n 0, 1) := by decide +kernel
theorem dX6_cut_1 : decode cX6_cut 1 = .ok (.getfield 10, 3) := by decide +kernel
theorem dX6_cut_4 : decode cX6_cut 4 = .ok (.iload_n 1, 1) := by decide +kernel
theorem dX6_cut_5 : decode cX6_cut 5 = .ok (.invokevirtual 78, 3) := by decide +kernel
theorem dX6_cut_8 : decode cX6_cut 8 = .ok (.ifCond .eq 19, 3) := by decide +kernel
theorem dX6_cut_11 : decode cX6_cut 11 = .ok (.aload_n 0, 1) := by decide +kernel
theorem dX6_cut_12 : decode cX6_cut 12 = .ok (.getfield 10, 3) := by decide +kernel
theorem dX6_cut_15 : decode cX6_cut 15 = .ok (.iload_n 2, 1) := by decide +kernel
theorem dX6_cut_16 : decode cX6_cut 16 = .ok (.invokevirtual 78, 3) := by decide +kernel
theorem dX6_cut_19 : decode cX6_cut 19 = .ok (.ifCond .eq 8, 3) := by decide +kernel
theorem dX6_cut_22 : decode cX6_cut 22 = .ok (.iload_n 2, 1) := by decide +kernel
theorem dX6_cut_23 : decode cX6_cut 23 = .ok (.iload_n 1, 1) := by decide +kernel
theorem dX6_cut_24 : decode cX6_cut 24 = .ok (.if_icmp .ge 5, 3) := by decide +kernel
theorem dX6_cut_27 : decode cX6_cut 27 = .ok (.iconst (-1), 1) := by decide +kernel
theorem dX6_cut_28 : decode cX6_cut 28 = .ok (.ireturn, 1) := by decide +kernel
theorem dX6_cut_29 : decode cX6_cut 29 = .ok (.aload_n 0, 1) := by decide +kernel
theorem dX6_cut_30 : decode cX6_cut 30 = .ok (.getfield 25, 3) := by decide +kernel
theorem dX6_cut_33 : decode cX6_cut 33 = .ok (.aload_n 0, 1) := by decide +kernel
theorem dX6_cut_34 : decode cX6_cut 34 = .ok (.getfield 10, 3) := by decide +kernel
theorem dX6_cut_37 : decode cX6_cut 37 = .ok (.invokevirtual 85, 3) := by decide +kernel
theorem dX6_cut_40 : decode cX6_cut 40 = .ok (.aload_n 0, 1) := by decide +kernel
theorem dX6_cut_41 : decode cX6_cut 41 = .ok (.getfield 10, 3) := by decide +kernel
theorem dX6_cut_44 : decode cX6_cut 44 = .ok (.iload_n 1, 1) := by decide +kernel
theorem dX6_cut_45 : decode cX6_cut 45 = .ok (.iload_n 2, 1) := by decide +kernel
theorem dX6_cut_46 : decode cX6_cut 46 = .ok (.invokevirtual 100, 3) := by decide +kernel
theorem dX6_cut_49 : decode cX6_cut 49 = .ok (.aload_n 0, 1) := by decide +kernel
theorem dX6_cut_50 : decode cX6_cut 50 = .ok (.getfield 10, 3) := by decide +kernel
theorem dX6_cut_53 : decode cX6_cut 53 = .ok (.getfield 97, 3) := by decide +kernel
theorem dX6_cut_56 : decode cX6_cut 56 = .ok (.ireturn, 1) := by decide +kernel
set_option maxRecDepth 20000 in
theorem ggX6_mirror_X0_remember : GoodIn wsX6_mirror wsX0_remember := goodIn_r _ [7, 8, 9, 10, 11, 12, 6, 13, 14, 15, 16, 17, 18, 19, 20, 21, 22, 23, 24, 25, 73, 74, 70, 71, 72] (by decide +kernel) (by decide +kernel)
set_option maxRecDepth 20000 in
theorem gX6_mirror_X0_remember : GoodIn wsX6_mirror (wsV RX6 85 RX0 yX0_remember wsX0_remember) := goodIn_app (goodIn_of _ (by decide +kernel)) ggX6_mirror_X0_remember
set_option maxRecDepth 20000 in
theorem ggX6_mirror_X2_at : GoodIn wsX6_mirror wsX2_at := goodIn_r _ [29, 25, 30, 31, 32, 17, 33, 24, 70, 71, 72] (by decide +kernel) (by decide +kernel)
set_option maxRecDepth 20000 in
theorem gX6_mirror_X2_at : GoodIn wsX6_mirror (wsV RX6 89 RX2 yX2_at wsX2_at) := goodIn_app (goodIn_of _ (by decide +kernel)) ggX6_mirror_X2_at
set_option maxRecDepth 20000 in
theorem ggX6_mirror_X5_isStroke : GoodIn wsX6_mirror wsX5_isStroke := goodIn_r _ [37] (by decide +kernel) (by decide +kernel)
set_option maxRecDepth 20000 in
theorem gX6_mirror_X5_isStroke : GoodIn wsX6_mirror (va_wsS RX6 103 yX5_isStroke wsX5_isStroke) := goodIn_app (goodIn_of _ (by decide +kernel)) ggX6_mirror_X5_isStroke
set_option maxRecDepth 20000 in
theorem ggX6_mirror_X5_hand : GoodIn wsX6_mirror wsX5_hand := goodIn_r _ [40] (by decide +kernel) (by decide +kernel)
set_option maxRecDepth 20000 in
theorem gX6_mirror_X5_hand : GoodIn wsX6_mirror (va_wsS RX6 106 yX5_hand wsX5_hand) := goodIn_app (goodIn_of _ (by decide +kernel)) ggX6_mirror_X5_hand
set_option maxRecDepth 20000 in
theorem ggX6_mirror_X6_otherHand : GoodIn wsX6_mirror wsX6_otherHand := goodIn_r _ [44] (by decide +kernel) (by decide +kernel)
set_option maxRecDepth 20000 in
theorem gX6_mirror_X6_otherHand : GoodIn wsX6_mirror (va_wsS RX6 109 yX6_otherHand wsX6_otherHand) := goodIn_app (goodIn_of _ (by decide +kernel)) ggX6_mirror_X6_otherHand
set_option maxRecDepth 20000 in
theorem ggX6_mirror_X5_withHand : GoodIn wsX6_mirror wsX5_withHand := goodIn_r _ [47, 48, 49, 36, 50, 51, 52, 53, 54, 55, 56] (by decide +kernel) (by decide +kernel)
set_option maxRecDepth 20000 in
theorem gX6_mirror_X5_withHand : GoodIn wsX6_mirror (va_wsS RX6 112 yX5_withHand wsX5_withHand) := goodIn_app (goodIn_of _ (by decide +kernel)) ggX6_mirror_X5_withHand
set_option maxRecDepth 20000 in
theorem ggX6_mirror_X2_change : GoodIn wsX6_mirror wsX2_change := goodIn_r _ [60, 25, 30, 31, 32, 17, 33, 24, 70, 71, 72] (by decide +kernel) (by decide +kernel)
set_option maxRecDepth 20000 in
theorem gX6_mirror_X2_change : GoodIn wsX6_mirror (wsV RX6 115 RX2 yX2_change wsX2_change) := goodIn_app (goodIn_of _ (by decide +kernel)) ggX6_mirror_X2_change
theorem dX6_mirror_0 : decode cX6_mirror 0 = .ok (.aload_n 0, 1) := by decide +kernel
theorem dX6_mirror_1 : decode cX6_mirror 1 = .ok (.getfield 25, 3) := by decide +kernel
theorem dX6_mirror_4 : decode cX6_mirror 4 = .ok (.aload_n 0, 1) := by decide +kernel
theorem dX6_mirror_5 : decode cX6_mirror 5 = .ok (.getfield 10, 3) := by decide +kernel
theorem dX6_mirror_8 : decode cX6_mirror 8 = .ok (.invokevirtual 85, 3) := by decide +kernel
theorem dX6_mirror_11 : decode cX6_mirror 11 = .ok (.iconst 0, 1) := by decide +kernel
theorem dX6_mirror_12 : decode cX6_mirror 12 = .ok (.istore_n 1, 1) := by decide +kernel
theorem dX6_mirror_13 : decode cX6_mirror 13 = .ok (.iconst 0, 1) := by decide +kernel
theorem dX6_mirror_14 : decode cX6_mirror 14 = .ok (.istore_n 2, 1) := by decide +kernel
theorem dX6_mirror_15 : decode cX6_mirror 15 = .ok (.iload_n 2, 1) := by decide +kernel
theorem dX6_mirror_16 : decode cX6_mirror 16 = .ok (.aload_n 0, 1) := by decide +kernel
theorem dX6_mirror_17 : decode cX6_mirror 17 = .ok (.getfield 10, 3) := by decide +kernel
theorem dX6_mirror_20 : decode cX6_mirror 20 = .ok (.getfield 97, 3) := by decide +kernel
theorem dX6_mirror_23 : decode cX6_mirror 23 = .ok (.if_icmp .ge 55, 3) := by decide +kernel
theorem dX6_mirror_26 : decode cX6_mirror 26 = .ok (.aload_n 0, 1) := by decide +kernel
theorem dX6_mirror_27 : decode cX6_mirror 27 = .ok (.getfield 10, 3) := by decide +kernel
theorem dX6_mirror_30 : decode cX6_mirror 30 = .ok (.iload_n 2, 1) := by decide +kernel
theorem dX6_mirror_31 : decode cX6_mirror 31 = .ok (.invokevirtual 89, 3) := by decide +kernel
theorem dX6_mirror_34 : decode cX6_mirror 34 = .ok (.istore_n 3, 1) := by decide +kernel
theorem dX6_mirror_35 : decode cX6_mirror 35 = .ok (.iload_n 3, 1) := by decide +kernel
theorem dX6_mirror_36 : decode cX6_mirror 36 = .ok (.invokestatic 103, 3) := by decide +kernel
theorem dX6_mirror_39 : decode cX6_mirror 39 = .ok (.ifCond .eq 33, 3) := by decide +kernel
theorem dX6_mirror_42 : decode cX6_mirror 42 = .ok (.iload_n 3, 1) := by decide +kernel
theorem dX6_mirror_43 : decode cX6_mirror 43 = .ok (.invokestatic 106, 3) := by decide +kernel
theorem dX6_mirror_46 : decode cX6_mirror 46 = .ok (.iconst 2, 1) := by decide +kernel
theorem dX6_mirror_47 : decode cX6_mirror 47 = .ok (.if_icmp .eq 25, 3) := by decide +kernel
theorem dX6_mirror_50 : decode cX6_mirror 50 = .ok (.aload_n 0, 1) := by decide +kernel
theorem dX6_mirror_51 : decode cX6_mirror 51 = .ok (.getfield 10, 3) := by decide +kernel
theorem dX6_mirror_54 : decode cX6_mirror 54 = .ok (.iload_n 2, 1) := by decide +kernel
theorem dX6_mirror_55 : decode cX6_mirror 55 = .ok (.iload_n 3, 1) := by decide +kernel
theorem dX6_mirror_56 : decode cX6_mirror 56 = .ok (.iload_n 3, 1) := by decide +kernel
theorem dX6_mirror_57 : decode cX6_mirror 57 = .ok (.invokestatic 106, 3) := by decide +kernel
theorem dX6_mirror_60 : decode cX6_mirror 60 = .ok (.invokestatic 109, 3) := by decide +kernel
theorem dX6_mirror_63 : decode cX6_mirror 63 = .ok (.invokestatic 112, 3) := by decide +kernel
theorem dX6_mirror_66 : decode cX6_mirror 66 = .ok (.invokevirtual 115, 3) := by decide +kernel
theorem dX6_mirror_69 : decode cX6_mirror 69 = .ok (.iinc 1 1, 3) := by decide +kernel
theorem dX6_mirror_72 : decode cX6_mirror 72 = .ok (.iinc 2 1, 3) := by decide +kernel
theorem dX6_mirror_75 : decode cX6_mirror 75 = .ok (.goto (-60), 3) := by decide +kernel
theorem dX6_mirror_78 : decode cX6_mirror 78 = .ok (.iload_n 1, 1) := by decide +kernel
theorem dX6_mirror_79 : decode cX6_mirror 79 = .ok (.ireturn, 1) := by decide +kernel
set_option maxRecDepth 20000 in
theorem ggX6_turn_X2_hasGap : GoodIn wsX6_turn wsX2_hasGap := goodIn_r _ [8, 9, 53, 54, 55] (by decide +kernel) (by decide +kernel)
set_option maxRecDepth 20000 in
theorem gX6_turn_X2_hasGap : GoodIn wsX6_turn (wsV RX6 58 RX2 yX2_hasGap wsX2_hasGap) := goodIn_app (goodIn_of _ (by decide +kernel)) ggX6_turn_X2_hasGap
set_option maxRecDepth 20000 in
theorem ggX6_turn_X0_remember : GoodIn wsX6_turn wsX0_remember := goodIn_r _ [14, 15, 16, 17, 18, 19, 13, 20, 21, 22, 23, 7, 24, 25, 26, 27, 28, 29, 9, 30, 56, 57, 53, 54, 55] (by decide +kernel) (by decide +kernel)
set_option maxRecDepth 20000 in
theorem gX6_turn_X0_remember : GoodIn wsX6_turn (wsV RX6 85 RX0 yX0_remember wsX0_remember) := goodIn_app (goodIn_of _ (by decide +kernel)) ggX6_turn_X0_remember
set_option maxRecDepth 20000 in
theorem ggX6_turn_X2_copy : GoodIn wsX6_turn wsX2_copy := goodIn_r _ [24, 25, 26, 27, 28, 7, 29, 9, 30, 53, 54, 55] (by decide +kernel) (by decide +kernel)
set_option maxRecDepth 20000 in
theorem gX6_turn_X2_copy : GoodIn wsX6_turn (wsV RX6 118 RX2 yX2_copy wsX2_copy) := goodIn_app (goodIn_of _ (by decide +kernel)) ggX6_turn_X2_copy
set_option maxRecDepth 20000 in
theorem ggX6_turn_X2_at : GoodIn wsX6_turn wsX2_at := goodIn_r _ [35, 30, 36, 37, 38, 7, 39, 9, 53, 54, 55] (by decide +kernel) (by decide +kernel)
set_option maxRecDepth 20000 in
theorem gX6_turn_X2_at : GoodIn wsX6_turn (wsV RX6 89 RX2 yX2_at wsX2_at) := goodIn_app (goodIn_of _ (by decide +kernel)) ggX6_turn_X2_at
set_option maxRecDepth 20000 in
theorem ggX6_turn_X2_change : GoodIn wsX6_turn wsX2_change := goodIn_r _ [43, 30, 36, 37, 38, 7, 39, 9, 53, 54, 55] (by decide +kernel) (by decide +kernel)
set_option maxRecDepth 20000 in
theorem gX6_turn_X2_change : GoodIn wsX6_turn (wsV RX6 115 RX2 yX2_change wsX2_change) := goodIn_app (goodIn_of _ (by decide +kernel)) ggX6_turn_X2_change
theorem dX6_turn_0 : decode cX6_turn 0 = .ok (.aload_n 0, 1) := by decide +kernel
theorem dX6_turn_1 : decode cX6_turn 1 = .ok (.getfield 10, 3) := by decide +kernel
theorem dX6_turn_4 : decode cX6_turn 4 = .ok (.iload_n 1, 1) := by decide +kernel
theorem dX6_turn_5 : decode cX6_turn 5 = .ok (.invokevirtual 58, 3) := by decide +kernel
theorem dX6_turn_8 : decode cX6_turn 8 = .ok (.ifCond .ne 5, 3) := by decide +kernel
theorem dX6_turn_11 : decode cX6_turn 11 = .ok (.iconst (-1), 1) := by decide +kernel
theorem dX6_turn_12 : decode cX6_turn 12 = .ok (.ireturn, 1) := by decide +kernel
theorem dX6_turn_13 : decode cX6_turn 13 = .ok (.aload_n 0, 1) := by decide +kernel
theorem dX6_turn_14 : decode cX6_turn 14 = .ok (.getfield 25, 3) := by decide +kernel
theorem dX6_turn_17 : decode cX6_turn 17 = .ok (.aload_n 0, 1) := by decide +kernel
theorem dX6_turn_18 : decode cX6_turn 18 = .ok (.getfield 10, 3) := by decide +kernel
theorem dX6_turn_21 : decode cX6_turn 21 = .ok (.invokevirtual 85, 3) := by decide +kernel
theorem dX6_turn_24 : decode cX6_turn 24 = .ok (.aload_n 0, 1) := by decide +kernel
theorem dX6_turn_25 : decode cX6_turn 25 = .ok (.getfield 16, 3) := by decide +kernel
theorem dX6_turn_28 : decode cX6_turn 28 = .ok (.aload_n 0, 1) := by decide +kernel
theorem dX6_turn_29 : decode cX6_turn 29 = .ok (.getfield 10, 3) := by decide +kernel
theorem dX6_turn_32 : decode cX6_turn 32 = .ok (.invokevirtual 118, 3) := by decide +kernel
theorem dX6_turn_35 : decode cX6_turn 35 = .ok (.iconst 0, 1) := by decide +kernel
theorem dX6_turn_36 : decode cX6_turn 36 = .ok (.istore_n 2, 1) := by decide +kernel
theorem dX6_turn_37 : decode cX6_turn 37 = .ok (.iconst 0, 1) := by decide +kernel
theorem dX6_turn_38 : decode cX6_turn 38 = .ok (.istore_n 3, 1) := by decide +kernel
theorem dX6_turn_39 : decode cX6_turn 39 = .ok (.iload_n 3, 1) := by decide +kernel
theorem dX6_turn_40 : decode cX6_turn 40 = .ok (.aload_n 0, 1) := by decide +kernel
theorem dX6_turn_41 : decode cX6_turn 41 = .ok (.getfield 10, 3) := by decide +kernel
theorem dX6_turn_44 : decode cX6_turn 44 = .ok (.getfield 97, 3) := by decide +kernel
theorem dX6_turn_47 : decode cX6_turn 47 = .ok (.if_icmp .ge 76, 3) := by decide +kernel
theorem dX6_turn_50 : decode cX6_turn 50 = .ok (.iload_n 3, 1) := by decide +kernel
theorem dX6_turn_51 : decode cX6_turn 51 = .ok (.iload_n 1, 1) := by decide +kernel
theorem dX6_turn_52 : decode cX6_turn 52 = .ok (.iadd, 1) := by decide +kernel
theorem dX6_turn_53 : decode cX6_turn 53 = .ok (.istore 4, 2) := by decide +kernel
theorem dX6_turn_55 : decode cX6_turn 55 = .ok (.aload_n 0, 1) := by decide +kernel
theorem dX6_turn_56 : decode cX6_turn 56 = .ok (.getfield 16, 3) := by decide +kernel
theorem dX6_turn_59 : decode cX6_turn 59 = .ok (.iload 4, 2) := by decide +kernel
theorem dX6_turn_61 : decode cX6_turn 61 = .ok (.aload_n 0, 1) := by decide +kernel
theorem dX6_turn_62 : decode cX6_turn 62 = .ok (.getfield 16, 3) := by decide +kernel
theorem dX6_turn_65 : decode cX6_turn 65 = .ok (.getfield 97, 3) := by decide +kernel
theorem dX6_turn_68 : decode cX6_turn 68 = .ok (.if_icmp .ge 8, 3) := by decide +kernel
theorem dX6_turn_71 : decode cX6_turn 71 = .ok (.iload 4, 2) := by decide +kernel
theorem dX6_turn_73 : decode cX6_turn 73 = .ok (.goto 13, 3) := by decide +kernel
theorem dX6_turn_76 : decode cX6_turn 76 = .ok (.iload 4, 2) := by decide +kernel
theorem dX6_turn_78 : decode cX6_turn 78 = .ok (.aload_n 0, 1) := by decide +kernel
theorem dX6_turn_79 : decode cX6_turn 79 = .ok (.getfield 16, 3) := by decide +kernel
theorem dX6_turn_82 : decode cX6_turn 82 = .ok (.getfield 97, 3) := by decide +kernel
theorem dX6_turn_85 : decode cX6_turn 85 = .ok (.isub, 1) := by decide +kernel
theorem dX6_turn_86 : decode cX6_turn 86 = .ok (.invokevirtual 89, 3) := by decide +kernel
theorem dX6_turn_89 : decode cX6_turn 89 = .ok (.istore 5, 2) := by decide +kernel
theorem dX6_turn_91 : decode cX6_turn 91 = .ok (.iload 5, 2) := by decide +kernel
theorem dX6_turn_93 : decode cX6_turn 93 = .ok (.aload_n 0, 1) := by decide +kernel
theorem dX6_turn_94 : decode cX6_turn 94 = .ok (.getfield 10, 3) := by decide +kernel
theorem dX6_turn_97 : decode cX6_turn 97 = .ok (.iload_n 3, 1) := by decide +kernel
theorem dX6_turn_98 : decode cX6_turn 98 = .ok (.invokevirtual 89, 3) := by decide +kernel
theorem dX6_turn_101 : decode cX6_turn 101 = .ok (.if_icmp .eq 16, 3) := by decide +kernel
theorem dX6_turn_104 : decode cX6_turn 104 = .ok (.aload_n 0, 1) := by decide +kernel
theorem dX6_turn_105 : decode cX6_turn 105 = .ok (.getfield 10, 3) := by decide +kernel
theorem dX6_turn_108 : decode cX6_turn 108 = .ok (.iload_n 3, 1) := by decide +kernel
theorem dX6_turn_109 : decode cX6_turn 109 = .ok (.iload 5, 2) := by decide +kernel
theorem dX6_turn_111 : decode cX6_turn 111 = .ok (.invokevirtual 115, 3) := by decide +kernel
theorem dX6_turn_114 : decode cX6_turn 114 = .ok (.iinc 2 1, 3) := by decide +kernel
theorem dX6_turn_117 : decode cX6_turn 117 = .ok (.iinc 3 1, 3) := by decide +kernel
theorem dX6_turn_120 : decode cX6_turn 120 = .ok (.goto (-81), 3) := by decide +kernel
theorem dX6_turn_123 : decode cX6_turn 123 = .ok (.iload_n 2, 1) := by decide +kernel
theorem dX6_turn_124 : decode cX6_turn 124 = .ok (.ireturn, 1) := by decide +kernel
set_option maxRecDepth 20000 in
theorem ggX6_lean_X0_remember : GoodIn wsX6_lean wsX0_remember := goodIn_r _ [7, 8, 9, 10, 11, 12, 6, 13, 14, 15, 16, 17, 18, 19, 20, 21, 22, 23, 24, 25, 66, 67, 63, 64, 65] (by decide +kernel) (by decide +kernel)
set_option maxRecDepth 20000 in
theorem gX6_lean_X0_remember : GoodIn wsX6_lean (wsV RX6 85 RX0 yX0_remember wsX0_remember) := goodIn_app (goodIn_of _ (by decide +kernel)) ggX6_lean_X0_remember
set_option maxRecDepth 20000 in
theorem ggX6_lean_X2_at : GoodIn wsX6_lean wsX2_at := goodIn_r _ [29, 25, 30, 31, 32, 17, 33, 24, 63, 64, 65] (by decide +kernel) (by decide +kernel)
set_option maxRecDepth 20000 in
theorem gX6_lean_X2_at : GoodIn wsX6_lean (wsV RX6 89 RX2 yX2_at wsX2_at) := goodIn_app (goodIn_of _ (by decide +kernel)) ggX6_lean_X2_at
set_option maxRecDepth 20000 in
theorem ggX6_lean_X5_ornament : GoodIn wsX6_lean wsX5_ornament := goodIn_r _ [37] (by decide +kernel) (by decide +kernel)
set_option maxRecDepth 20000 in
theorem gX6_lean_X5_ornament : GoodIn wsX6_lean (va_wsS RX6 121 yX5_ornament wsX5_ornament) := goodIn_app (goodIn_of _ (by decide +kernel)) ggX6_lean_X5_ornament
set_option maxRecDepth 20000 in
theorem ggX6_lean_X5_withOrnament : GoodIn wsX6_lean wsX5_withOrnament := goodIn_r _ [40, 41, 42, 36, 43, 44, 45, 46, 47, 48, 49] (by decide +kernel) (by decide +kernel)
set_option maxRecDepth 20000 in
theorem gX6_lean_X5_withOrnament : GoodIn wsX6_lean (va_wsS RX6 124 yX5_withOrnament wsX5_withOrnament) := goodIn_app (goodIn_of _ (by decide +kernel)) ggX6_lean_X5_withOrnament
set_option maxRecDepth 20000 in
theorem ggX6_lean_X2_change : GoodIn wsX6_lean wsX2_change := goodIn_r _ [53, 25, 30, 31, 32, 17, 33, 24, 63, 64, 65] (by decide +kernel) (by decide +kernel)
set_option maxRecDepth 20000 in
theorem gX6_lean_X2_change : GoodIn wsX6_lean (wsV RX6 115 RX2 yX2_change wsX2_change) := goodIn_app (goodIn_of _ (by decide +kernel)) ggX6_lean_X2_change
theorem dX6_lean_0 : decode cX6_lean 0 = .ok (.aload_n 0, 1) := by decide +kernel
theorem dX6_lean_1 : decode cX6_lean 1 = .ok (.getfield 25, 3) := by decide +kernel
theorem dX6_lean_4 : decode cX6_lean 4 = .ok (.aload_n 0, 1) := by decide +kernel
theorem dX6_lean_5 : decode cX6_lean 5 = .ok (.getfield 10, 3) := by decide +kernel
theorem dX6_lean_8 : decode cX6_lean 8 = .ok (.invokevirtual 85, 3) := by decide +kernel
theorem dX6_lean_11 : decode cX6_lean 11 = .ok (.iload_n 1, 1) := by decide +kernel
theorem dX6_lean_12 : decode cX6_lean 12 = .ok (.ifCond .eq 7, 3) := by decide +kernel
theorem dX6_lean_15 : decode cX6_lean 15 = .ok (.iconst 1, 1) := by decide +kernel
theorem dX6_lean_16 : decode cX6_lean 16 = .ok (.goto 4, 3) := by decide +kernel
theorem dX6_lean_19 : decode cX6_lean 19 = .ok (.iconst 2, 1) := by decide +kernel
theorem dX6_lean_20 : decode cX6_lean 20 = .ok (.istore_n 2, 1) := by decide +kernel
theorem dX6_lean_21 : decode cX6_lean 21 = .ok (.iload_n 1, 1) := by decide +kernel
theorem dX6_lean_22 : decode cX6_lean 22 = .ok (.ifCond .eq 7, 3) := by decide +kernel
theorem dX6_lean_25 : decode cX6_lean 25 = .ok (.iconst 2, 1) := by decide +kernel
theorem dX6_lean_26 : decode cX6_lean 26 = .ok (.goto 4, 3) := by decide +kernel
theorem dX6_lean_29 : decode cX6_lean 29 = .ok (.iconst 1, 1) := by decide +kernel
theorem dX6_lean_30 : decode cX6_lean 30 = .ok (.istore_n 3, 1) := by decide +kernel
theorem dX6_lean_31 : decode cX6_lean 31 = .ok (.iconst 0, 1) := by decide +kernel
theorem dX6_lean_32 : decode cX6_lean 32 = .ok (.istore 4, 2) := by decide +kernel
theorem dX6_lean_34 : decode cX6_lean 34 = .ok (.iconst 0, 1) := by decide +kernel
theorem dX6_lean_35 : decode cX6_lean 35 = .ok (.istore 5, 2) := by decide +kernel
theorem dX6_lean_37 : decode cX6_lean 37 = .ok (.iload 5, 2) := by decide +kernel
theorem dX6_lean_39 : decode cX6_lean 39 = .ok (.aload_n 0, 1) := by decide +kernel
theorem dX6_lean_40 : decode cX6_lean 40 = .ok (.getfield 10, 3) := by decide +kernel
theorem dX6_lean_43 : decode cX6_lean 43 = .ok (.getfield 97, 3) := by decide +kernel
theorem dX6_lean_46 : decode cX6_lean 46 = .ok (.if_icmp .ge 47, 3) := by decide +kernel
theorem dX6_lean_49 : decode cX6_lean 49 = .ok (.aload_n 0, 1) := by decide +kernel
theorem dX6_lean_50 : decode cX6_lean 50 = .ok (.getfield 10, 3) := by decide +kernel
theorem dX6_lean_53 : decode cX6_lean 53 = .ok (.iload 5, 2) := by decide +kernel
theorem dX6_lean_55 : decode cX6_lean 55 = .ok (.invokevirtual 89, 3) := by decide +kernel
theorem dX6_lean_58 : decode cX6_lean 58 = .ok (.istore 6, 2) := by decide +kernel
theorem dX6_lean_60 : decode cX6_lean 60 = .ok (.iload 6, 2) := by decide +kernel
theorem dX6_lean_62 : decode cX6_lean 62 = .ok (.invokestatic 121, 3) := by decide +kernel
theorem dX6_lean_65 : decode cX6_lean 65 = .ok (.iload_n 2, 1) := by decide +kernel
theorem dX6_lean_66 : decode cX6_lean 66 = .ok (.if_icmp .ne 21, 3) := by decide +kernel
theorem dX6_lean_69 : decode cX6_lean 69 = .ok (.aload_n 0, 1) := by decide +kernel
theorem dX6_lean_70 : decode cX6_lean 70 = .ok (.getfield 10, 3) := by decide +kernel
theorem dX6_lean_73 : decode cX6_lean 73 = .ok (.iload 5, 2) := by decide +kernel
theorem dX6_lean_75 : decode cX6_lean 75 = .ok (.iload 6, 2) := by decide +kernel
theorem dX6_lean_77 : decode cX6_lean 77 = .ok (.iload_n 3, 1) := by decide +kernel
theorem dX6_lean_78 : decode cX6_lean 78 = .ok (.invokestatic 124, 3) := by decide +kernel
theorem dX6_lean_81 : decode cX6_lean 81 = .ok (.invokevirtual 115, 3) := by decide +kernel
theorem dX6_lean_84 : decode cX6_lean 84 = .ok (.iinc 4 1, 3) := by decide +kernel
theorem dX6_lean_87 : decode cX6_lean 87 = .ok (.iinc 5 1, 3) := by decide +kernel
theorem dX6_lean_90 : decode cX6_lean 90 = .ok (.goto (-53), 3) := by decide +kernel
theorem dX6_lean_93 : decode cX6_lean 93 = .ok (.iload 4, 2) := by decide +kernel
theorem dX6_lean_95 : decode cX6_lean 95 = .ok (.ireturn, 1) := by decide +kernel
set_option maxRecDepth 20000 in
theorem ggX6_set_X0_remember : GoodIn wsX6_set wsX0_remember := goodIn_r _ [7, 8, 9, 10, 11, 12, 6, 13, 14, 15, 16, 17, 18, 19, 20, 21, 22, 23, 24, 25, 38, 39, 35, 36, 37] (by decide +kernel) (by decide +kernel)
set_option maxRecDepth 20000 in
theorem gX6_set_X0_remember : GoodIn wsX6_set (wsV RX6 85 RX0 yX0_remember wsX0_remember) := goodIn_app (goodIn_of _ (by decide +kernel)) ggX6_set_X0_remember
theorem dX6_set_0 : decode cX6_set 0 = .ok (.iload_n 1, 1) := by decide +kernel
theorem dX6_set_1 : decode cX6_set 1 = .ok (.iconst 1, 1) := by decide +kernel
theorem dX6_set_2 : decode cX6_set 2 = .ok (.if_icmp .lt 8, 3) := by decide +kernel
theorem dX6_set_5 : decode cX6_set 5 = .ok (.iload_n 1, 1) := by decide +kernel
theorem dX6_set_6 : decode cX6_set 6 = .ok (.iconst 4, 1) := by decide +kernel
theorem dX6_set_7 : decode cX6_set 7 = .ok (.if_icmp .le 5, 3) := by decide +kernel
theorem dX6_set_10 : decode cX6_set 10 = .ok (.iconst (-1), 1) := by decide +kernel
theorem dX6_set_11 : decode cX6_set 11 = .ok (.ireturn, 1) := by decide +kernel
theorem dX6_set_12 : decode cX6_set 12 = .ok (.aload_n 0, 1) := by decide +kernel
theorem dX6_set_13 : decode cX6_set 13 = .ok (.getfield 25, 3) := by decide +kernel
theorem dX6_set_16 : decode cX6_set 16 = .ok (.aload_n 0, 1) := by decide +kernel
theorem dX6_set_17 : decode cX6_set 17 = .ok (.getfield 10, 3) := by decide +kernel
theorem dX6_set_20 : decode cX6_set 20 = .ok (.invokevirtual 85, 3) := by decide +kernel
theorem dX6_set_23 : decode cX6_set 23 = .ok (.aload_n 0, 1) := by decide +kernel
theorem dX6_set_24 : decode cX6_set 24 = .ok (.getfield 10, 3) := by decide +kernel
theorem dX6_set_27 : decode cX6_set 27 = .ok (.getfield 127, 3) := by decide +kernel
theorem dX6_set_30 : decode cX6_set 30 = .ok (.istore_n 2, 1) := by decide +kernel
theorem dX6_set_31 : decode cX6_set 31 = .ok (.aload_n 0, 1) := by decide +kernel
theorem dX6_set_32 : decode cX6_set 32 = .ok (.getfield 10, 3) := by decide +kernel
theorem dX6_set_35 : decode cX6_set 35 = .ok (.iload_n 1, 1) := by decide +kernel
theorem dX6_set_36 : decode cX6_set 36 = .ok (.putfield 127, 3) := by decide +kernel
theorem dX6_set_39 : decode cX6_set 39 = .ok (.iload_n 2, 1) := by decide +kernel
theorem dX6_set_40 : decode cX6_set 40 = .ok (.ireturn, 1) := by decide +kernel
set_option maxRecDepth 20000 in
theorem ggX6_decide_X3_canChoose : GoodIn wsX6_decide wsX3_canChoose := goodIn_r _ [8, 9, 10, 11, 12, 13, 14, 7, 15, 16, 17, 18, 19, 20, 21, 22, 23, 24, 25, 26, 27, 28, 29, 30, 31, 32, 33, 34, 35, 36, 37, 38, 39, 40, 41, 42, 43, 44, 45, 46, 47, 48, 49, 50, 51, 52, 53, 54, 55, 56, 57, 58, 59, 60, 61, 62, 63, 64, 65, 66, 67, 68, 69, 70, 71, 72, 126, 127, 128, 129, 130, 131, 132, 123, 124, 125] (by decide +kernel) (by decide +kernel)
set_option maxRecDepth 20000 in
theorem gX6_decide_X3_canChoose : GoodIn wsX6_decide (wsV RX6 130 RX3 yX3_canChoose wsX3_canChoose) := goodIn_app (goodIn_of _ (by decide +kernel)) ggX6_decide_X3_canChoose
set_option maxRecDepth 20000 in
theorem ggX6_decide_X0_remember : GoodIn wsX6_decide wsX0_remember := goodIn_r _ [77, 78, 79, 80, 81, 82, 76, 83, 84, 85, 86, 25, 87, 88, 89, 90, 91, 92, 32, 27, 133, 134, 123, 124, 125] (by decide +kernel) (by decide +kernel)
set_option maxRecDepth 20000 in
theorem gX6_decide_X0_remember : GoodIn wsX6_decide (wsV RX6 85 RX0 yX0_remember wsX0_remember) := goodIn_app (goodIn_of _ (by decide +kernel)) ggX6_decide_X0_remember
set_option maxRecDepth 20000 in
theorem ggX6_decide_X2_at : GoodIn wsX6_decide wsX2_at := goodIn_r _ [26, 27, 28, 29, 30, 25, 31, 32, 123, 124, 125] (by decide +kernel) (by decide +kernel)
set_option maxRecDepth 20000 in
theorem gX6_decide_X2_at : GoodIn wsX6_decide (wsV RX6 89 RX2 yX2_at wsX2_at) := goodIn_app (goodIn_of _ (by decide +kernel)) ggX6_decide_X2_at
set_option maxRecDepth 20000 in
theorem ggX6_decide_X5_isStroke : GoodIn wsX6_decide wsX5_isStroke := goodIn_r _ [36] (by decide +kernel) (by decide +kernel)
set_option maxRecDepth 20000 in
theorem gX6_decide_X5_isStroke : GoodIn wsX6_decide (va_wsS RX6 103 yX5_isStroke wsX5_isStroke) := goodIn_app (goodIn_of _ (by decide +kernel)) ggX6_decide_X5_isStroke
set_option maxRecDepth 20000 in
theorem ggX6_decide_X5_hand : GoodIn wsX6_decide wsX5_hand := goodIn_r _ [39] (by decide +kernel) (by decide +kernel)
set_option maxRecDepth 20000 in
theorem gX6_decide_X5_hand : GoodIn wsX6_decide (va_wsS RX6 106 yX5_hand wsX5_hand) := goodIn_app (goodIn_of _ (by decide +kernel)) ggX6_decide_X5_hand
set_option maxRecDepth 20000 in
theorem ggX6_decide_X3_handAt : GoodIn wsX6_decide wsX3_handAt := goodIn_r _ [99, 9, 11, 126, 127, 128, 129, 130, 131, 132] (by decide +kernel) (by decide +kernel)
set_option maxRecDepth 20000 in
theorem gX6_decide_X3_handAt : GoodIn wsX6_decide (wsV RX6 134 RX3 yX3_handAt wsX3_handAt) := goodIn_app (goodIn_of _ (by decide +kernel)) ggX6_decide_X3_handAt
set_option maxRecDepth 20000 in
theorem ggX6_decide_X5_withHand : GoodIn wsX6_decide wsX5_withHand := goodIn_r _ [102, 103, 104, 35, 105, 106, 46, 47, 107, 108, 109] (by decide +kernel) (by decide +kernel)
set_option maxRecDepth 20000 in
theorem gX6_decide_X5_withHand : GoodIn wsX6_decide (va_wsS RX6 112 yX5_withHand wsX5_withHand) := goodIn_app (goodIn_of _ (by decide +kernel)) ggX6_decide_X5_withHand
set_option maxRecDepth 20000 in
theorem ggX6_decide_X2_change : GoodIn wsX6_decide wsX2_change := goodIn_r _ [113, 27, 28, 29, 30, 25, 31, 32, 123, 124, 125] (by decide +kernel) (by decide +kernel)
set_option maxRecDepth 20000 in
theorem gX6_decide_X2_change : GoodIn wsX6_decide (wsV RX6 115 RX2 yX2_change wsX2_change) := goodIn_app (goodIn_of _ (by decide +kernel)) ggX6_decide_X2_change
theorem dX6_decide_0 : decode cX6_decide 0 = .ok (.aload_n 0, 1) := by decide +kernel
theorem dX6_decide_1 : decode cX6_decide 1 = .ok (.getfield 46, 3) := by decide +kernel
theorem dX6_decide_4 : decode cX6_decide 4 = .ok (.aload_n 0, 1) := by decide +kernel
theorem dX6_decide_5 : decode cX6_decide 5 = .ok (.getfield 10, 3) := by decide +kernel
theorem dX6_decide_8 : decode cX6_decide 8 = .ok (.iload_n 1, 1) := by decide +kernel
theorem dX6_decide_9 : decode cX6_decide 9 = .ok (.invokevirtual 130, 3) := by decide +kernel
theorem dX6_decide_12 : decode cX6_decide 12 = .ok (.ifCond .ne 6, 3) := by decide +kernel
theorem dX6_decide_15 : decode cX6_decide 15 = .ok (.bipush (-2), 2) := by decide +kernel
theorem dX6_decide_17 : decode cX6_decide 17 = .ok (.ireturn, 1) := by decide +kernel
theorem dX6_decide_18 : decode cX6_decide 18 = .ok (.aload_n 0, 1) := by decide +kernel
theorem dX6_decide_19 : decode cX6_decide 19 = .ok (.getfield 25, 3) := by decide +kernel
theorem dX6_decide_22 : decode cX6_decide 22 = .ok (.aload_n 0, 1) := by decide +kernel
theorem dX6_decide_23 : decode cX6_decide 23 = .ok (.getfield 10, 3) := by decide +kernel
theorem dX6_decide_26 : decode cX6_decide 26 = .ok (.invokevirtual 85, 3) := by decide +kernel
theorem dX6_decide_29 : decode cX6_decide 29 = .ok (.iconst 0, 1) := by decide +kernel
theorem dX6_decide_30 : decode cX6_decide 30 = .ok (.istore_n 2, 1) := by decide +kernel
theorem dX6_decide_31 : decode cX6_decide 31 = .ok (.iconst 0, 1) := by decide +kernel
theorem dX6_decide_32 : decode cX6_decide 32 = .ok (.istore_n 3, 1) := by decide +kernel
theorem dX6_decide_33 : decode cX6_decide 33 = .ok (.iload_n 3, 1) := by decide +kernel
theorem dX6_decide_34 : decode cX6_decide 34 = .ok (.aload_n 0, 1) := by decide +kernel
theorem dX6_decide_35 : decode cX6_decide 35 = .ok (.getfield 10, 3) := by decide +kernel
theorem dX6_decide_38 : decode cX6_decide 38 = .ok (.getfield 97, 3) := by decide +kernel
theorem dX6_decide_41 : decode cX6_decide 41 = .ok (.if_icmp .ge 60, 3) := by decide +kernel
theorem dX6_decide_44 : decode cX6_decide 44 = .ok (.aload_n 0, 1) := by decide +kernel
theorem dX6_decide_45 : decode cX6_decide 45 = .ok (.getfield 10, 3) := by decide +kernel
theorem dX6_decide_48 : decode cX6_decide 48 = .ok (.iload_n 3, 1) := by decide +kernel
theorem dX6_decide_49 : decode cX6_decide 49 = .ok (.invokevirtual 89, 3) := by decide +kernel
theorem dX6_decide_52 : decode cX6_decide 52 = .ok (.istore 4, 2) := by decide +kernel
theorem dX6_decide_54 : decode cX6_decide 54 = .ok (.iload 4, 2) := by decide +kernel
theorem dX6_decide_56 : decode cX6_decide 56 = .ok (.invokestatic 103, 3) := by decide +kernel
theorem dX6_decide_59 : decode cX6_decide 59 = .ok (.ifCond .eq 36, 3) := by decide +kernel
theorem dX6_decide_62 : decode cX6_decide 62 = .ok (.iload 4, 2) := by decide +kernel
theorem dX6_decide_64 : decode cX6_decide 64 = .ok (.invokestatic 106, 3) := by decide +kernel
theorem dX6_decide_67 : decode cX6_decide 67 = .ok (.iconst 2, 1) := by decide +kernel
theorem dX6_decide_68 : decode cX6_decide 68 = .ok (.if_icmp .ne 27, 3) := by decide +kernel
theorem dX6_decide_71 : decode cX6_decide 71 = .ok (.aload_n 0, 1) := by decide +kernel
theorem dX6_decide_72 : decode cX6_decide 72 = .ok (.getfield 10, 3) := by decide +kernel
theorem dX6_decide_75 : decode cX6_decide 75 = .ok (.iload_n 3, 1) := by decide +kernel
theorem dX6_decide_76 : decode cX6_decide 76 = .ok (.iload 4, 2) := by decide +kernel
theorem dX6_decide_78 : decode cX6_decide 78 = .ok (.aload_n 0, 1) := by decide +kernel
theorem dX6_decide_79 : decode cX6_decide 79 = .ok (.getfield 46, 3) := by decide +kernel
theorem dX6_decide_82 : decode cX6_decide 82 = .ok (.iload_n 3, 1) := by decide +kernel
theorem dX6_decide_83 : decode cX6_decide 83 = .ok (.invokevirtual 134, 3) := by decide +kernel
theorem dX6_decide_86 : decode cX6_decide 86 = .ok (.invokestatic 112, 3) := by decide +kernel
theorem dX6_decide_89 : decode cX6_decide 89 = .ok (.invokevirtual 115, 3) := by decide +kernel
theorem dX6_decide_92 : decode cX6_decide 92 = .ok (.iinc 2 1, 3) := by decide +kernel
theorem dX6_decide_95 : decode cX6_decide 95 = .ok (.iinc 3 1, 3) := by decide +kernel
theorem dX6_decide_98 : decode cX6_decide 98 = .ok (.goto (-65), 3) := by decide +kernel
theorem dX6_decide_101 : decode cX6_decide 101 = .ok (.iload_n 2, 1) := by decide +kernel
theorem dX6_decide_102 : decode cX6_decide 102 = .ok (.ireturn, 1) := by decide +kernel
theorem dX6_clear_0 : decode cX6_clear 0 = .ok (.aload_n 0, 1) := by decide +kernel
theorem dX6_clear_1 : decode cX6_clear 1 = .ok (.getfield 32, 3) := by decide +kernel
theorem dX6_clear_4 : decode cX6_clear 4 = .ok (.getfield 140, 3) := by decide +kernel
theorem dX6_clear_7 : decode cX6_clear 7 = .ok (.istore_n 1, 1) := by decide +kernel
theorem dX6_clear_8 : decode cX6_clear 8 = .ok (.aload_n 0, 1) := by decide +kernel
theorem dX6_clear_9 : decode cX6_clear 9 = .ok (.getfield 32, 3) := by decide +kernel
theorem dX6_clear_12 : decode cX6_clear 12 = .ok (.iconst 0, 1) := by decide +kernel
theorem dX6_clear_13 : decode cX6_clear 13 = .ok (.putfield 140, 3) := by decide +kernel
theorem dX6_clear_16 : decode cX6_clear 16 = .ok (.iload_n 1, 1) := by decide +kernel
theorem dX6_clear_17 : decode cX6_clear 17 = .ok (.ireturn, 1) := by decide +kernel
set_option maxRecDepth 20000 in
theorem ggX6_sign_X2_signAt : GoodIn wsX6_sign wsX2_signAt := goodIn_r _ [6, 7, 8, 9, 10, 11, 12, 13, 14, 15, 16, 17, 18, 19, 20, 21, 22, 23, 24, 25, 26, 27, 28, 29, 30, 40, 41, 42] (by decide +kernel) (by decide +kernel)
set_option maxRecDepth 20000 in
theorem gX6_sign_X2_signAt : GoodIn wsX6_sign (wsV RX6 155 RX2 yX2_signAt wsX2_signAt) := goodIn_app (goodIn_of _ (by decide +kernel)) ggX6_sign_X2_signAt
theorem dX6_sign_0 : decode cX6_sign 0 = .ok (.iload_n 1, 1) := by decide +kernel
theorem dX6_sign_1 : decode cX6_sign 1 = .ok (.ifCond .ge 7, 3) := by decide +kernel
theorem dX6_sign_4 : decode cX6_sign 4 = .ok (.iconst (-1), 1) := by decide +kernel
theorem dX6_sign_5 : decode cX6_sign 5 = .ok (.goto 11, 3) := by decide +kernel
theorem dX6_sign_8 : decode cX6_sign 8 = .ok (.aload_n 0, 1) := by decide +kernel
theorem dX6_sign_9 : decode cX6_sign 9 = .ok (.getfield 10, 3) := by decide +kernel
theorem dX6_sign_12 : decode cX6_sign 12 = .ok (.iload_n 1, 1) := by decide +kernel
theorem dX6_sign_13 : decode cX6_sign 13 = .ok (.invokevirtual 155, 3) := by decide +kernel
theorem dX6_sign_16 : decode cX6_sign 16 = .ok (.ireturn, 1) := by decide +kernel
set_option maxRecDepth 20000 in
theorem ggX6_step_X2_hasStep : GoodIn wsX6_step wsX2_hasStep := goodIn_r _ [6, 7, 114, 115, 116] (by decide +kernel) (by decide +kernel)
set_option maxRecDepth 20000 in
theorem gX6_step_X2_hasStep : GoodIn wsX6_step (wsV RX6 78 RX2 yX2_hasStep wsX2_hasStep) := goodIn_app (goodIn_of _ (by decide +kernel)) ggX6_step_X2_hasStep
set_option maxRecDepth 20000 in
theorem ggX6_step_X2_at : GoodIn wsX6_step wsX2_at := goodIn_r _ [11, 12, 13, 3, 4, 5, 6, 7, 114, 115, 116] (by decide +kernel) (by decide +kernel)
set_option maxRecDepth 20000 in
theorem gX6_step_X2_at : GoodIn wsX6_step (wsV RX6 89 RX2 yX2_at wsX2_at) := goodIn_app (goodIn_of _ (by decide +kernel)) ggX6_step_X2_at
set_option maxRecDepth 20000 in
theorem ggX6_step_X5_isStroke : GoodIn wsX6_step wsX5_isStroke := goodIn_r _ [17] (by decide +kernel) (by decide +kernel)
set_option maxRecDepth 20000 in
theorem gX6_step_X5_isStroke : GoodIn wsX6_step (va_wsS RX6 103 yX5_isStroke wsX5_isStroke) := goodIn_app (goodIn_of _ (by decide +kernel)) ggX6_step_X5_isStroke
set_option maxRecDepth 20000 in
theorem ggX6_step_X5_hand : GoodIn wsX6_step wsX5_hand := goodIn_r _ [20] (by decide +kernel) (by decide +kernel)
set_option maxRecDepth 20000 in
theorem gX6_step_X5_hand : GoodIn wsX6_step (va_wsS RX6 106 yX5_hand wsX5_hand) := goodIn_app (goodIn_of _ (by decide +kernel)) ggX6_step_X5_hand
set_option maxRecDepth 20000 in
theorem ggX6_step_X5_isAccented : GoodIn wsX6_step wsX5_isAccented := goodIn_r _ [23] (by decide +kernel) (by decide +kernel)
set_option maxRecDepth 20000 in
theorem gX6_step_X5_isAccented : GoodIn wsX6_step (va_wsS RX6 158 yX5_isAccented wsX5_isAccented) := goodIn_app (goodIn_of _ (by decide +kernel)) ggX6_step_X5_isAccented
set_option maxRecDepth 20000 in
theorem ggX6_step_X5_ornament : GoodIn wsX6_step wsX5_ornament := goodIn_r _ [26] (by decide +kernel) (by decide +kernel)
set_option maxRecDepth 20000 in
theorem gX6_step_X5_ornament : GoodIn wsX6_step (va_wsS RX6 121 yX5_ornament wsX5_ornament) := goodIn_app (goodIn_of _ (by decide +kernel)) ggX6_step_X5_ornament
set_option maxRecDepth 20000 in
theorem ggX6_step_X5_blows : GoodIn wsX6_step wsX5_blows := goodIn_r _ [29, 30, 15, 16, 17, 31, 25, 26, 32, 33, 34] (by decide +kernel) (by decide +kernel)
set_option maxRecDepth 20000 in
theorem gX6_step_X5_blows : GoodIn wsX6_step (va_wsS RX6 161 yX5_blows wsX5_blows) := goodIn_app (goodIn_of _ (by decide +kernel)) ggX6_step_X5_blows
set_option maxRecDepth 20000 in
theorem ggX6_step_X5_forces : GoodIn wsX6_step wsX5_forces := goodIn_r _ [37, 38, 28, 16, 29, 30, 15, 17, 31, 25, 26, 32, 33, 34, 39, 40, 41, 42, 22, 23] (by decide +kernel) (by decide +kernel)
set_option maxRecDepth 20000 in
theorem gX6_step_X5_forces : GoodIn wsX6_step (va_wsS RX6 164 yX5_forces wsX5_forces) := goodIn_app (goodIn_of _ (by decide +kernel)) ggX6_step_X5_forces
set_option maxRecDepth 20000 in
theorem ggX6_step_X6_playedHand : GoodIn wsX6_step wsX6_playedHand := goodIn_r _ [47, 1, 48, 8, 9, 10, 5, 11, 12, 13, 3, 4, 6, 7, 14, 15, 16, 17, 49, 50, 51, 52, 53, 54, 55, 56, 57, 58, 59, 60, 61, 62, 63, 64, 65, 66, 67, 68, 69, 19, 20, 70, 71, 72, 73, 74, 75, 25, 26, 76, 77, 78, 79, 80, 81, 82, 83, 84, 85, 86, 87, 88, 89, 90, 91, 92, 93, 94, 95, 96, 97, 98, 99, 100, 101, 102, 103, 104, 105, 106, 107, 108, 109, 110, 111, 112, 113, 114, 115, 116, 117, 118, 119, 120, 121, 122, 123] (by decide +kernel) (by decide +kernel)
set_option maxRecDepth 20000 in
theorem gX6_step_X6_playedHand : GoodIn wsX6_step (wsV RX6 167 RX6 yX6_playedHand wsX6_playedHand) := goodIn_app (goodIn_of _ (by decide +kernel)) ggX6_step_X6_playedHand
theorem dX6_step_0 : decode cX6_step 0 = .ok (.aload_n 0, 1) := by decide +kernel
theorem dX6_step_1 : decode cX6_step 1 = .ok (.getfield 10, 3) := by decide +kernel
theorem dX6_step_4 : decode cX6_step 4 = .ok (.iload_n 1, 1) := by decide +kernel
theorem dX6_step_5 : decode cX6_step 5 = .ok (.invokevirtual 78, 3) := by decide +kernel
theorem dX6_step_8 : decode cX6_step 8 = .ok (.ifCond .ne 5, 3) := by decide +kernel
theorem dX6_step_11 : decode cX6_step 11 = .ok (.iconst (-1), 1) := by decide +kernel
theorem dX6_step_12 : decode cX6_step 12 = .ok (.ireturn, 1) := by decide +kernel
theorem dX6_step_13 : decode cX6_step 13 = .ok (.aload_n 0, 1) := by decide +kernel
theorem dX6_step_14 : decode cX6_step 14 = .ok (.getfield 10, 3) := by decide +kernel
theorem dX6_step_17 : decode cX6_step 17 = .ok (.iload_n 1, 1) := by decide +kernel
theorem dX6_step_18 : decode cX6_step 18 = .ok (.invokevirtual 89, 3) := by decide +kernel
theorem dX6_step_21 : decode cX6_step 21 = .ok (.istore_n 3, 1) := by decide +kernel
theorem dX6_step_22 : decode cX6_step 22 = .ok (.iload_n 2, 1) := by decide +kernel
theorem dX6_step_23 : decode cX6_step 23 = .ok (.tableswitch 100 0 6 #[41, 58, 71, 76, 81, 86, 93], 41) := by decide +kernel
theorem dX6_step_64 : decode cX6_step 64 = .ok (.iload_n 3, 1) := by decide +kernel
theorem dX6_step_65 : decode cX6_step 65 = .ok (.invokestatic 103, 3) := by decide +kernel
theorem dX6_step_68 : decode cX6_step 68 = .ok (.ifCond .eq 10, 3) := by decide +kernel
theorem dX6_step_71 : decode cX6_step 71 = .ok (.iload_n 3, 1) := by decide +kernel
theorem dX6_step_72 : decode cX6_step 72 = .ok (.invokestatic 106, 3) := by decide +kernel
theorem dX6_step_75 : decode cX6_step 75 = .ok (.goto 5, 3) := by decide +kernel
theorem dX6_step_78 : decode cX6_step 78 = .ok (.bipush (-4), 2) := by decide +kernel
theorem dX6_step_80 : decode cX6_step 80 = .ok (.ireturn, 1) := by decide +kernel
theorem dX6_step_81 : decode cX6_step 81 = .ok (.iload_n 3, 1) := by decide +kernel
theorem dX6_step_82 : decode cX6_step 82 = .ok (.invokestatic 158, 3) := by decide +kernel
theorem dX6_step_85 : decode cX6_step 85 = .ok (.ifCond .eq 7, 3) := by decide +kernel
theorem dX6_step_88 : decode cX6_step 88 = .ok (.iconst 1, 1) := by decide +kernel
theorem dX6_step_89 : decode cX6_step 89 = .ok (.goto 4, 3) := by decide +kernel
theorem dX6_step_92 : decode cX6_step 92 = .ok (.iconst 0, 1) := by decide +kernel
theorem dX6_step_93 : decode cX6_step 93 = .ok (.ireturn, 1) := by decide +kernel
theorem dX6_step_94 : decode cX6_step 94 = .ok (.iload_n 3, 1) := by decide +kernel
theorem dX6_step_95 : decode cX6_step 95 = .ok (.invokestatic 121, 3) := by decide +kernel
theorem dX6_step_98 : decode cX6_step 98 = .ok (.ireturn, 1) := by decide +kernel
theorem dX6_step_99 : decode cX6_step 99 = .ok (.iload_n 3, 1) := by decide +kernel
theorem dX6_step_100 : decode cX6_step 100 = .ok (.invokestatic 161, 3) := by decide +kernel
theorem dX6_step_103 : decode cX6_step 103 = .ok (.ireturn, 1) := by decide +kernel
theorem dX6_step_104 : decode cX6_step 104 = .ok (.iload_n 3, 1) := by decide +kernel
theorem dX6_step_105 : decode cX6_step 105 = .ok (.invokestatic 164, 3) := by decide +kernel
theorem dX6_step_108 : decode cX6_step 108 = .ok (.ireturn, 1) := by decide +kernel
theorem dX6_step_109 : decode cX6_step 109 = .ok (.aload_n 0, 1) := by decide +kernel
theorem dX6_step_110 : decode cX6_step 110 = .ok (.iload_n 1, 1) := by decide +kernel
theorem dX6_step_111 : decode cX6_step 111 = .ok (.iconst 0, 1) := by decide +kernel
theorem dX6_step_112 : decode cX6_step 112 = .ok (.invokevirtual 167, 3) := by decide +kernel
theorem dX6_step_115 : decode cX6_step 115 = .ok (.ireturn, 1) := by decide +kernel
theorem dX6_step_116 : decode cX6_step 116 = .ok (.aload_n 0, 1) := by decide +kernel
theorem dX6_step_117 : decode cX6_step 117 = .ok (.iload_n 1, 1) := by decide +kernel
theorem dX6_step_118 : decode cX6_step 118 = .ok (.iconst 1, 1) := by decide +kernel
theorem dX6_step_119 : decode cX6_step 119 = .ok (.invokevirtual 167, 3) := by decide +kernel
theorem dX6_step_122 : decode cX6_step 122 = .ok (.ireturn, 1) := by decide +kernel
theorem dX6_step_123 : decode cX6_step 123 = .ok (.iconst (-1), 1) := by decide +kernel
theorem dX6_step_124 : decode cX6_step 124 = .ok (.ireturn, 1) := by decide +kernel
set_option maxRecDepth 20000 in
theorem ggX6_heard_X2_at : GoodIn wsX6_heard wsX2_at := goodIn_r _ [6, 7, 8, 9, 10, 5, 11, 12, 47, 48, 49] (by decide +kernel) (by decide +kernel)
set_option maxRecDepth 20000 in
theorem gX6_heard_X2_at : GoodIn wsX6_heard (wsV RX6 89 RX2 yX2_at wsX2_at) := goodIn_app (goodIn_of _ (by decide +kernel)) ggX6_heard_X2_at
set_option maxRecDepth 20000 in
theorem ggX6_heard_X5_forcesAt : GoodIn wsX6_heard wsX5_forcesAt := goodIn_r _ [16, 17, 18, 15, 19, 20, 21, 22, 23, 24, 25, 26, 27, 28, 29, 30, 31, 32, 33, 34, 35, 36, 37] (by decide +kernel) (by decide +kernel)
set_option maxRecDepth 20000 in
theorem gX6_heard_X5_forcesAt : GoodIn wsX6_heard (va_wsS RX6 171 yX5_forcesAt wsX5_forcesAt) := goodIn_app (goodIn_of _ (by decide +kernel)) ggX6_heard_X5_forcesAt
theorem dX6_heard_0 : decode cX6_heard 0 = .ok (.iload_n 1, 1) := by decide +kernel
theorem dX6_heard_1 : decode cX6_heard 1 = .ok (.bipush (-2), 2) := by decide +kernel
theorem dX6_heard_3 : decode cX6_heard 3 = .ok (.if_icmp .lt 16, 3) := by decide +kernel
theorem dX6_heard_6 : decode cX6_heard 6 = .ok (.iload_n 1, 1) := by decide +kernel
theorem dX6_heard_7 : decode cX6_heard 7 = .ok (.iconst 4, 1) := by decide +kernel
theorem dX6_heard_8 : decode cX6_heard 8 = .ok (.aload_n 0, 1) := by decide +kernel
theorem dX6_heard_9 : decode cX6_heard 9 = .ok (.getfield 10, 3) := by decide +kernel
theorem dX6_heard_12 : decode cX6_heard 12 = .ok (.getfield 97, 3) := by decide +kernel
theorem dX6_heard_15 : decode cX6_heard 15 = .ok (.imul, 1) := by decide +kernel
theorem dX6_heard_16 : decode cX6_heard 16 = .ok (.if_icmp .le 5, 3) := by decide +kernel
theorem dX6_heard_19 : decode cX6_heard 19 = .ok (.iconst (-1), 1) := by decide +kernel
theorem dX6_heard_20 : decode cX6_heard 20 = .ok (.ireturn, 1) := by decide +kernel
theorem dX6_heard_21 : decode cX6_heard 21 = .ok (.iconst 0, 1) := by decide +kernel
theorem dX6_heard_22 : decode cX6_heard 22 = .ok (.istore_n 2, 1) := by decide +kernel
theorem dX6_heard_23 : decode cX6_heard 23 = .ok (.iconst 0, 1) := by decide +kernel
theorem dX6_heard_24 : decode cX6_heard 24 = .ok (.istore_n 3, 1) := by decide +kernel
theorem dX6_heard_25 : decode cX6_heard 25 = .ok (.iload_n 3, 1) := by decide +kernel
theorem dX6_heard_26 : decode cX6_heard 26 = .ok (.aload_n 0, 1) := by decide +kernel
theorem dX6_heard_27 : decode cX6_heard 27 = .ok (.getfield 10, 3) := by decide +kernel
theorem dX6_heard_30 : decode cX6_heard 30 = .ok (.getfield 97, 3) := by decide +kernel
theorem dX6_heard_33 : decode cX6_heard 33 = .ok (.if_icmp .ge 28, 3) := by decide +kernel
theorem dX6_heard_36 : decode cX6_heard 36 = .ok (.iload_n 2, 1) := by decide +kernel
theorem dX6_heard_37 : decode cX6_heard 37 = .ok (.aload_n 0, 1) := by decide +kernel
theorem dX6_heard_38 : decode cX6_heard 38 = .ok (.getfield 10, 3) := by decide +kernel
theorem dX6_heard_41 : decode cX6_heard 41 = .ok (.iload_n 3, 1) := by decide +kernel
theorem dX6_heard_42 : decode cX6_heard 42 = .ok (.invokevirtual 89, 3) := by decide +kernel
theorem dX6_heard_45 : decode cX6_heard 45 = .ok (.iload_n 1, 1) := by decide +kernel
theorem dX6_heard_46 : decode cX6_heard 46 = .ok (.iconst 4, 1) := by decide +kernel
theorem dX6_heard_47 : decode cX6_heard 47 = .ok (.iload_n 3, 1) := by decide +kernel
theorem dX6_heard_48 : decode cX6_heard 48 = .ok (.imul, 1) := by decide +kernel
theorem dX6_heard_49 : decode cX6_heard 49 = .ok (.isub, 1) := by decide +kernel
theorem dX6_heard_50 : decode cX6_heard 50 = .ok (.invokestatic 171, 3) := by decide +kernel
theorem dX6_heard_53 : decode cX6_heard 53 = .ok (.iadd, 1) := by decide +kernel
theorem dX6_heard_54 : decode cX6_heard 54 = .ok (.istore_n 2, 1) := by decide +kernel
theorem dX6_heard_55 : decode cX6_heard 55 = .ok (.iinc 3 1, 3) := by decide +kernel
theorem dX6_heard_58 : decode cX6_heard 58 = .ok (.goto (-33), 3) := by decide +kernel
theorem dX6_heard_61 : decode cX6_heard 61 = .ok (.iload_n 2, 1) := by decide +kernel
theorem dX6_heard_62 : decode cX6_heard 62 = .ok (.ireturn, 1) := by decide +kernel
set_option maxRecDepth 20000 in
theorem ggX6_stickings_X2_strokesOf : GoodIn wsX6_stickings wsX2_strokesOf := goodIn_r _ [7, 8, 9, 10, 11, 12, 13, 14, 15, 16, 103, 104, 105] (by decide +kernel) (by decide +kernel)
set_option maxRecDepth 20000 in
theorem gX6_stickings_X2_strokesOf : GoodIn wsX6_stickings (wsV RX6 174 RX2 yX2_strokesOf wsX2_strokesOf) := goodIn_app (goodIn_of _ (by decide +kernel)) ggX6_stickings_X2_strokesOf
set_option maxRecDepth 20000 in
theorem ggX6_stickings_X3_tellEach : GoodIn wsX6_stickings wsX3_tellEach := goodIn_r _ [21, 22, 23, 24, 25, 26, 27, 28, 20, 29, 30, 31, 32, 33, 34, 35, 36, 6, 37, 9, 38, 39, 40, 41, 8, 42, 11, 12, 13, 43, 15, 16, 44, 45, 46, 47, 48, 49, 50, 51, 52, 4, 5, 7, 10, 14, 53, 54, 55, 56, 57, 58, 59, 60, 61, 62, 63, 64, 65, 66, 67, 68, 69, 103, 104, 105, 106, 107, 108, 109, 110, 111, 112] (by decide +kernel) (by decide +kernel)
set_option maxRecDepth 20000 in
theorem gX6_stickings_X3_tellEach : GoodIn wsX6_stickings (wsV RX6 177 RX3 yX3_tellEach wsX3_tellEach) := goodIn_app (goodIn_of _ (by decide +kernel)) ggX6_stickings_X3_tellEach
set_option maxRecDepth 20000 in
theorem ggX6_stickings_X3_tell : GoodIn wsX6_stickings wsX3_tell := goodIn_r _ [73, 74, 75, 76, 24, 77, 78, 79, 80, 6, 81, 8, 9, 10, 11, 12, 13, 26, 27, 28, 20, 29, 22, 23, 25, 30, 31, 32, 33, 34, 35, 36, 37, 38, 39, 40, 41, 42, 43, 15, 16, 44, 45, 46, 47, 48, 49, 50, 51, 82, 83, 84, 85, 86, 87, 88, 89, 90, 91, 92, 93, 66, 67, 68, 69, 103, 104, 105, 106, 107, 108, 109, 110, 111, 112] (by decide +kernel) (by decide +kernel)
set_option maxRecDepth 20000 in
theorem gX6_stickings_X3_tell : GoodIn wsX6_stickings (wsV RX6 181 RX3 yX3_tell wsX3_tell) := goodIn_app (goodIn_of _ (by decide +kernel)) ggX6_stickings_X3_tell
theorem dX6_stickings_0 : decode cX6_stickings 0 = .ok (.iload_n 2, 1) := by decide +kernel
theorem dX6_stickings_1 : decode cX6_stickings 1 = .ok (.ifCond .eq 10, 3) := by decide +kernel
theorem dX6_stickings_4 : decode cX6_stickings 4 = .ok (.iload_n 2, 1) := by decide +kernel
theorem dX6_stickings_5 : decode cX6_stickings 5 = .ok (.iconst 1, 1) := by decide +kernel
theorem dX6_stickings_6 : decode cX6_stickings 6 = .ok (.if_icmp .eq 5, 3) := by decide +kernel
theorem dX6_stickings_9 : decode cX6_stickings 9 = .ok (.iconst (-1), 1) := by decide +kernel
theorem dX6_stickings_10 : decode cX6_stickings 10 = .ok (.ireturn, 1) := by decide +kernel
theorem dX6_stickings_11 : decode cX6_stickings 11 = .ok (.iload_n 2, 1) := by decide +kernel
theorem dX6_stickings_12 : decode cX6_stickings 12 = .ok (.iconst 1, 1) := by decide +kernel
theorem dX6_stickings_13 : decode cX6_stickings 13 = .ok (.if_icmp .ne 29, 3) := by decide +kernel
theorem dX6_stickings_16 : decode cX6_stickings 16 = .ok (.aload_n 0, 1) := by decide +kernel
theorem dX6_stickings_17 : decode cX6_stickings 17 = .ok (.getfield 10, 3) := by decide +kernel
theorem dX6_stickings_20 : decode cX6_stickings 20 = .ok (.iconst 2, 1) := by decide +kernel
theorem dX6_stickings_21 : decode cX6_stickings 21 = .ok (.invokevirtual 174, 3) := by decide +kernel
theorem dX6_stickings_24 : decode cX6_stickings 24 = .ok (.bipush 8, 2) := by decide +kernel
theorem dX6_stickings_26 : decode cX6_stickings 26 = .ok (.if_icmp .gt 16, 3) := by decide +kernel
theorem dX6_stickings_29 : decode cX6_stickings 29 = .ok (.aload_n 0, 1) := by decide +kernel
theorem dX6_stickings_30 : decode cX6_stickings 30 = .ok (.getfield 46, 3) := by decide +kernel
theorem dX6_stickings_33 : decode cX6_stickings 33 = .ok (.aload_n 0, 1) := by decide +kernel
theorem dX6_stickings_34 : decode cX6_stickings 34 = .ok (.getfield 10, 3) := by decide +kernel
theorem dX6_stickings_37 : decode cX6_stickings 37 = .ok (.iload_n 1, 1) := by decide +kernel
theorem dX6_stickings_38 : decode cX6_stickings 38 = .ok (.invokevirtual 177, 3) := by decide +kernel
theorem dX6_stickings_41 : decode cX6_stickings 41 = .ok (.ireturn, 1) := by decide +kernel
theorem dX6_stickings_42 : decode cX6_stickings 42 = .ok (.aload_n 0, 1) := by decide +kernel
theorem dX6_stickings_43 : decode cX6_stickings 43 = .ok (.getfield 46, 3) := by decide +kernel
theorem dX6_stickings_46 : decode cX6_stickings 46 = .ok (.aload_n 0, 1) := by decide +kernel
theorem dX6_stickings_47 : decode cX6_stickings 47 = .ok (.getfield 10, 3) := by decide +kernel
theorem dX6_stickings_50 : decode cX6_stickings 50 = .ok (.iload_n 1, 1) := by decide +kernel
theorem dX6_stickings_51 : decode cX6_stickings 51 = .ok (.invokevirtual 181, 3) := by decide +kernel
theorem dX6_stickings_54 : decode cX6_stickings 54 = .ok (.ireturn, 1) := by decide +kernel
set_option maxRecDepth 20000 in
theorem ggX6_clash_X2_strokesOf : GoodIn wsX6_clash wsX2_strokesOf := goodIn_r _ [7, 8, 9, 10, 11, 12, 13, 14, 15, 16, 78, 79, 80] (by decide +kernel) (by decide +kernel)
set_option maxRecDepth 20000 in
theorem gX6_clash_X2_strokesOf : GoodIn wsX6_clash (wsV RX6 174 RX2 yX2_strokesOf wsX2_strokesOf) := goodIn_app (goodIn_of _ (by decide +kernel)) ggX6_clash_X2_strokesOf
set_option maxRecDepth 20000 in
theorem ggX6_clash_X3_clashOfOnly : GoodIn wsX6_clash wsX3_clashOfOnly := goodIn_r _ [21, 22, 23, 24, 20, 25, 26, 27, 28, 29, 30, 31, 32, 33, 34, 35, 36, 6, 37, 9, 38, 39, 40, 41, 8, 42, 11, 12, 13, 43, 15, 16, 44, 45, 46, 47, 48, 49, 50, 51, 52, 53, 54, 55, 56, 57, 58, 59, 60, 61, 62, 63, 64, 65, 66, 67, 68, 78, 79, 80, 81, 82, 83, 84, 85, 86, 87] (by decide +kernel) (by decide +kernel)
set_option maxRecDepth 20000 in
theorem gX6_clash_X3_clashOfOnly : GoodIn wsX6_clash (wsV RX6 184 RX3 yX3_clashOfOnly wsX3_clashOfOnly) := goodIn_app (goodIn_of _ (by decide +kernel)) ggX6_clash_X3_clashOfOnly
theorem dX6_clash_0 : decode cX6_clash 0 = .ok (.aload_n 0, 1) := by decide +kernel
theorem dX6_clash_1 : decode cX6_clash 1 = .ok (.getfield 10, 3) := by decide +kernel
theorem dX6_clash_4 : decode cX6_clash 4 = .ok (.iconst 2, 1) := by decide +kernel
theorem dX6_clash_5 : decode cX6_clash 5 = .ok (.invokevirtual 174, 3) := by decide +kernel
theorem dX6_clash_8 : decode cX6_clash 8 = .ok (.ifCond .le 6, 3) := by decide +kernel
theorem dX6_clash_11 : decode cX6_clash 11 = .ok (.bipush (-2), 2) := by decide +kernel
theorem dX6_clash_13 : decode cX6_clash 13 = .ok (.ireturn, 1) := by decide +kernel
theorem dX6_clash_14 : decode cX6_clash 14 = .ok (.aload_n 0, 1) := by decide +kernel
theorem dX6_clash_15 : decode cX6_clash 15 = .ok (.getfield 46, 3) := by decide +kernel
theorem dX6_clash_18 : decode cX6_clash 18 = .ok (.aload_n 0, 1) := by decide +kernel
theorem dX6_clash_19 : decode cX6_clash 19 = .ok (.getfield 10, 3) := by decide +kernel
theorem dX6_clash_22 : decode cX6_clash 22 = .ok (.invokevirtual 184, 3) := by decide +kernel
theorem dX6_clash_25 : decode cX6_clash 25 = .ok (.ireturn, 1) := by decide +kernel
set_option maxRecDepth 20000 in
theorem ggX6_count_X2_strokes : GoodIn wsX6_count wsX2_strokes := goodIn_r _ [8, 9, 10, 11, 12, 13, 14, 84, 85, 86] (by decide +kernel) (by decide +kernel)
set_option maxRecDepth 20000 in
theorem gX6_count_X2_strokes : GoodIn wsX6_count (wsV RX6 188 RX2 yX2_strokes wsX2_strokes) := goodIn_app (goodIn_of _ (by decide +kernel)) ggX6_count_X2_strokes
set_option maxRecDepth 20000 in
theorem ggX6_count_X2_strokesOf : GoodIn wsX6_count wsX2_strokesOf := goodIn_r _ [18, 9, 10, 11, 12, 13, 14, 19, 20, 21, 84, 85, 86] (by decide +kernel) (by decide +kernel)
set_option maxRecDepth 20000 in
theorem gX6_count_X2_strokesOf : GoodIn wsX6_count (wsV RX6 174 RX2 yX2_strokesOf wsX2_strokesOf) := goodIn_app (goodIn_of _ (by decide +kernel)) ggX6_count_X2_strokesOf
set_option maxRecDepth 20000 in
theorem ggX6_count_X2_accents : GoodIn wsX6_count wsX2_accents := goodIn_r _ [25, 9, 10, 26, 27, 13, 28, 84, 85, 86] (by decide +kernel) (by decide +kernel)
set_option maxRecDepth 20000 in
theorem gX6_count_X2_accents : GoodIn wsX6_count (wsV RX6 191 RX2 yX2_accents wsX2_accents) := goodIn_app (goodIn_of _ (by decide +kernel)) ggX6_count_X2_accents
set_option maxRecDepth 20000 in
theorem ggX6_count_X2_strokesWith : GoodIn wsX6_count wsX2_strokesWith := goodIn_r _ [32, 9, 10, 11, 12, 13, 14, 33, 34, 35, 84, 85, 86] (by decide +kernel) (by decide +kernel)
set_option maxRecDepth 20000 in
theorem gX6_count_X2_strokesWith : GoodIn wsX6_count (wsV RX6 194 RX2 yX2_strokesWith wsX2_strokesWith) := goodIn_app (goodIn_of _ (by decide +kernel)) ggX6_count_X2_strokesWith
set_option maxRecDepth 20000 in
theorem ggX6_count_X2_blows : GoodIn wsX6_count wsX2_blows := goodIn_r _ [39, 9, 10, 40, 41, 13, 42, 43, 12, 14, 44, 34, 35, 45, 46, 47, 84, 85, 86] (by decide +kernel) (by decide +kernel)
set_option maxRecDepth 20000 in
theorem gX6_count_X2_blows : GoodIn wsX6_count (wsV RX6 197 RX2 yX2_blows wsX2_blows) := goodIn_app (goodIn_of _ (by decide +kernel)) ggX6_count_X2_blows
set_option maxRecDepth 20000 in
theorem ggX6_count_X2_forces : GoodIn wsX6_count wsX2_forces := goodIn_r _ [51, 9, 10, 52, 53, 13, 54, 55, 41, 42, 43, 12, 14, 44, 34, 35, 45, 46, 47, 56, 57, 58, 59, 27, 28, 84, 85, 86] (by decide +kernel) (by decide +kernel)
set_option maxRecDepth 20000 in
theorem gX6_count_X2_forces : GoodIn wsX6_count (wsV RX6 199 RX2 yX2_forces wsX2_forces) := goodIn_app (goodIn_of _ (by decide +kernel)) ggX6_count_X2_forces
set_option maxRecDepth 20000 in
theorem ggX6_count_X2_longestRow : GoodIn wsX6_count wsX2_longestRow := goodIn_r _ [63, 9, 10, 64, 65, 66, 67, 11, 12, 13, 14, 84, 85, 86] (by decide +kernel) (by decide +kernel)
set_option maxRecDepth 20000 in
theorem gX6_count_X2_longestRow : GoodIn wsX6_count (wsV RX6 201 RX2 yX2_longestRow wsX2_longestRow) := goodIn_app (goodIn_of _ (by decide +kernel)) ggX6_count_X2_longestRow
set_option maxRecDepth 20000 in
theorem ggX6_count_X2_textLength : GoodIn wsX6_count wsX2_textLength := goodIn_r _ [71, 9, 10, 72, 73, 13, 74, 59, 27, 28, 44, 34, 35, 84, 85, 86] (by decide +kernel) (by decide +kernel)
set_option maxRecDepth 20000 in
theorem gX6_count_X2_textLength : GoodIn wsX6_count (wsV RX6 204 RX2 yX2_textLength wsX2_textLength) := goodIn_app (goodIn_of _ (by decide +kernel)) ggX6_count_X2_textLength
theorem dX6_count_0 : decode cX6_count 0 = .ok (.iload_n 1, 1) := by decide +kernel
theorem dX6_count_1 : decode cX6_count 1 = .ok (.tableswitch 221 0 15 #[79, 87, 103, 112, 121, 130, 138, 147, 156, 165, 173, 181, 189, 197, 205, 213], 79) := by decide +kernel
theorem dX6_count_80 : decode cX6_count 80 = .ok (.aload_n 0, 1) := by decide +kernel
theorem dX6_count_81 : decode cX6_count 81 = .ok (.getfield 10, 3) := by decide +kernel
theorem dX6_count_84 : decode cX6_count 84 = .ok (.getfield 97, 3) := by decide +kernel
theorem dX6_count_87 : decode cX6_count 87 = .ok (.ireturn, 1) := by decide +kernel
theorem dX6_count_88 : decode cX6_count 88 = .ok (.aload_n 0, 1) := by decide +kernel
theorem dX6_count_89 : decode cX6_count 89 = .ok (.getfield 10, 3) := by decide +kernel
theorem dX6_count_92 : decode cX6_count 92 = .ok (.getfield 97, 3) := by decide +kernel
theorem dX6_count_95 : decode cX6_count 95 = .ok (.aload_n 0, 1) := by decide +kernel
theorem dX6_count_96 : decode cX6_count 96 = .ok (.getfield 10, 3) := by decide +kernel
theorem dX6_count_99 : decode cX6_count 99 = .ok (.invokevirtual 188, 3) := by decide +kernel
theorem dX6_count_102 : decode cX6_count 102 = .ok (.isub, 1) := by decide +kernel
theorem dX6_count_103 : decode cX6_count 103 = .ok (.ireturn, 1) := by decide +kernel
theorem dX6_count_104 : decode cX6_count 104 = .ok (.aload_n 0, 1) := by decide +kernel
theorem dX6_count_105 : decode cX6_count 105 = .ok (.getfield 10, 3) := by decide +kernel
theorem dX6_count_108 : decode cX6_count 108 = .ok (.iconst 0, 1) := by decide +kernel
theorem dX6_count_109 : decode cX6_count 109 = .ok (.invokevirtual 174, 3) := by decide +kernel
theorem dX6_count_112 : decode cX6_count 112 = .ok (.ireturn, 1) := by decide +kernel
theorem dX6_count_113 : decode cX6_count 113 = .ok (.aload_n 0, 1) := by decide +kernel
theorem dX6_count_114 : decode cX6_count 114 = .ok (.getfield 10, 3) := by decide +kernel
theorem dX6_count_117 : decode cX6_count 117 = .ok (.iconst 1, 1) := by decide +kernel
theorem dX6_count_118 : decode cX6_count 118 = .ok (.invokevirtual 174, 3) := by decide +kernel
theorem dX6_count_121 : decode cX6_count 121 = .ok (.ireturn, 1) := by decide +kernel
theorem dX6_count_122 : decode cX6_count 122 = .ok (.aload_n 0, 1) := by decide +kernel
theorem dX6_count_123 : decode cX6_count 123 = .ok (.getfield 10, 3) := by decide +kernel
theorem dX6_count_126 : decode cX6_count 126 = .ok (.iconst 2, 1) := by decide +kernel
theorem dX6_count_127 : decode cX6_count 127 = .ok (.invokevirtual 174, 3) := by decide +kernel
theorem dX6_count_130 : decode cX6_count 130 = .ok (.ireturn, 1) := by decide +kernel
theorem dX6_count_131 : decode cX6_count 131 = .ok (.aload_n 0, 1) := by decide +kernel
theorem dX6_count_132 : decode cX6_count 132 = .ok (.getfield 10, 3) := by decide +kernel
theorem dX6_count_135 : decode cX6_count 135 = .ok (.invokevirtual 191, 3) := by decide +kernel
theorem dX6_count_138 : decode cX6_count 138 = .ok (.ireturn, 1) := by decide +kernel
theorem dX6_count_139 : decode cX6_count 139 = .ok (.aload_n 0, 1) := by decide +kernel
theorem dX6_count_140 : decode cX6_count 140 = .ok (.getfield 10, 3) := by decide +kernel
theorem dX6_count_143 : decode cX6_count 143 = .ok (.iconst 1, 1) := by decide +kernel
theorem dX6_count_144 : decode cX6_count 144 = .ok (.invokevirtual 194, 3) := by decide +kernel
theorem dX6_count_147 : decode cX6_count 147 = .ok (.ireturn, 1) := by decide +kernel
theorem dX6_count_148 : decode cX6_count 148 = .ok (.aload_n 0, 1) := by decide +kernel
theorem dX6_count_149 : decode cX6_count 149 = .ok (.getfield 10, 3) := by decide +kernel
theorem dX6_count_152 : decode cX6_count 152 = .ok (.iconst 2, 1) := by decide +kernel
theorem dX6_count_153 : decode cX6_count 153 = .ok (.invokevirtual 194, 3) := by decide +kernel
theorem dX6_count_156 : decode cX6_count 156 = .ok (.ireturn, 1) := by decide +kernel
theorem dX6_count_157 : decode cX6_count 157 = .ok (.aload_n 0, 1) := by decide +kernel
theorem dX6_count_158 : decode cX6_count 158 = .ok (.getfield 10, 3) := by decide +kernel
theorem dX6_count_161 : decode cX6_count 161 = .ok (.iconst 3, 1) := by decide +kernel
theorem dX6_count_162 : decode cX6_count 162 = .ok (.invokevirtual 194, 3) := by decide +kernel
theorem dX6_count_165 : decode cX6_count 165 = .ok (.ireturn, 1) := by decide +kernel
theorem dX6_count_166 : decode cX6_count 166 = .ok (.aload_n 0, 1) := by decide +kernel
theorem dX6_count_167 : decode cX6_count 167 = .ok (.getfield 10, 3) := by decide +kernel
theorem dX6_count_170 : decode cX6_count 170 = .ok (.invokevirtual 197, 3) := by decide +kernel
theorem dX6_count_173 : decode cX6_count 173 = .ok (.ireturn, 1) := by decide +kernel
theorem dX6_count_174 : decode cX6_count 174 = .ok (.aload_n 0, 1) := by decide +kernel
theorem dX6_count_175 : decode cX6_count 175 = .ok (.getfield 10, 3) := by decide +kernel
theorem dX6_count_178 : decode cX6_count 178 = .ok (.invokevirtual 199, 3) := by decide +kernel
theorem dX6_count_181 : decode cX6_count 181 = .ok (.ireturn, 1) := by decide +kernel
theorem dX6_count_182 : decode cX6_count 182 = .ok (.aload_n 0, 1) := by decide +kernel
theorem dX6_count_183 : decode cX6_count 183 = .ok (.getfield 10, 3) := by decide +kernel
theorem dX6_count_186 : decode cX6_count 186 = .ok (.getfield 127, 3) := by decide +kernel
theorem dX6_count_189 : decode cX6_count 189 = .ok (.ireturn, 1) := by decide +kernel
theorem dX6_count_190 : decode cX6_count 190 = .ok (.aload_n 0, 1) := by decide +kernel
theorem dX6_count_191 : decode cX6_count 191 = .ok (.getfield 10, 3) := by decide +kernel
theorem dX6_count_194 : decode cX6_count 194 = .ok (.invokevirtual 201, 3) := by decide +kernel
theorem dX6_count_197 : decode cX6_count 197 = .ok (.ireturn, 1) := by decide +kernel
theorem dX6_count_198 : decode cX6_count 198 = .ok (.aload_n 0, 1) := by decide +kernel
theorem dX6_count_199 : decode cX6_count 199 = .ok (.getfield 10, 3) := by decide +kernel
theorem dX6_count_202 : decode cX6_count 202 = .ok (.invokevirtual 204, 3) := by decide +kernel
theorem dX6_count_205 : decode cX6_count 205 = .ok (.ireturn, 1) := by decide +kernel
theorem dX6_count_206 : decode cX6_count 206 = .ok (.aload_n 0, 1) := by decide +kernel
theorem dX6_count_207 : decode cX6_count 207 = .ok (.getfield 32, 3) := by decide +kernel
theorem dX6_count_210 : decode cX6_count 210 = .ok (.getfield 140, 3) := by decide +kernel
theorem dX6_count_213 : decode cX6_count 213 = .ok (.ireturn, 1) := by decide +kernel
theorem dX6_count_214 : decode cX6_count 214 = .ok (.aload_n 0, 1) := by decide +kernel
theorem dX6_count_215 : decode cX6_count 215 = .ok (.getfield 25, 3) := by decide +kernel
theorem dX6_count_218 : decode cX6_count 218 = .ok (.getfield 207, 3) := by decide +kernel
theorem dX6_count_221 : decode cX6_count 221 = .ok (.ireturn, 1) := by decide +kernel
theorem dX6_count_222 : decode cX6_count 222 = .ok (.iconst (-1), 1) := by decide +kernel
theorem dX6_count_223 : decode cX6_count 223 = .ok (.ireturn, 1) := by decide +kernel
set_option maxRecDepth 20000 in
theorem ggX6_right_X2_forces : GoodIn wsX6_right wsX2_forces := goodIn_r _ [8, 9, 10, 11, 12, 13, 14, 15, 16, 17, 18, 19, 20, 21, 22, 23, 24, 25, 26, 27, 28, 29, 30, 31, 32, 117, 118, 119] (by decide +kernel) (by decide +kernel)
set_option maxRecDepth 20000 in
theorem gX6_right_X2_forces : GoodIn wsX6_right (wsV RX6 199 RX2 yX2_forces wsX2_forces) := goodIn_app (goodIn_of _ (by decide +kernel)) ggX6_right_X2_forces
set_option maxRecDepth 20000 in
theorem ggX6_right_X3_canChoose : GoodIn wsX6_right wsX3_canChoose := goodIn_r _ [37, 38, 39, 40, 41, 42, 43, 36, 44, 45, 46, 47, 48, 49, 50, 51, 52, 53, 7, 54, 10, 55, 56, 57, 58, 9, 59, 19, 13, 20, 60, 61, 62, 63, 64, 65, 66, 67, 68, 22, 23, 69, 70, 71, 72, 73, 74, 75, 76, 77, 78, 79, 80, 81, 82, 83, 84, 85, 86, 87, 88, 89, 90, 91, 92, 93, 120, 121, 122, 123, 124, 125, 126, 117, 118, 119] (by decide +kernel) (by decide +kernel)
set_option maxRecDepth 20000 in
theorem gX6_right_X3_canChoose : GoodIn wsX6_right (wsV RX6 130 RX3 yX3_canChoose wsX3_canChoose) := goodIn_app (goodIn_of _ (by decide +kernel)) ggX6_right_X3_canChoose
set_option maxRecDepth 20000 in
theorem ggX6_right_X2_at : GoodIn wsX6_right wsX2_at := goodIn_r _ [54, 10, 55, 56, 57, 7, 58, 9, 117, 118, 119] (by decide +kernel) (by decide +kernel)
set_option maxRecDepth 20000 in
theorem gX6_right_X2_at : GoodIn wsX6_right (wsV RX6 89 RX2 yX2_at wsX2_at) := goodIn_app (goodIn_of _ (by decide +kernel)) ggX6_right_X2_at
set_option maxRecDepth 20000 in
theorem ggX6_right_X3_handAt : GoodIn wsX6_right wsX3_handAt := goodIn_r _ [98, 38, 40, 120, 121, 122, 123, 124, 125, 126] (by decide +kernel) (by decide +kernel)
set_option maxRecDepth 20000 in
theorem gX6_right_X3_handAt : GoodIn wsX6_right (wsV RX6 134 RX3 yX3_handAt wsX3_handAt) := goodIn_app (goodIn_of _ (by decide +kernel)) ggX6_right_X3_handAt
set_option maxRecDepth 20000 in
theorem ggX6_right_X5_forcesOfRight : GoodIn wsX6_right wsX5_forcesOfRight := goodIn_r _ [101, 15, 16, 13, 17, 18, 19, 20, 21, 22, 23, 24, 25, 26, 102, 103, 104, 105, 106, 107, 27, 28, 29, 30, 31, 32] (by decide +kernel) (by decide +kernel)
set_option maxRecDepth 20000 in
theorem gX6_right_X5_forcesOfRight : GoodIn wsX6_right (va_wsS RX6 210 yX5_forcesOfRight wsX5_forcesOfRight) := goodIn_app (goodIn_of _ (by decide +kernel)) ggX6_right_X5_forcesOfRight
theorem dX6_right_0 : decode cX6_right 0 = .ok (.aload_n 0, 1) := by decide +kernel
