theorem dX2_init_0 : decode cX2_init 0 = .ok (.aload_n 0, 1) := by decide +kernel
theorem dX2_init_1 : decode cX2_init 1 = .ok (.invokespecial 3, 3) := by decide +kernel
theorem dX2_init_4 : decode cX2_init 4 = .ok (.aload_n 0, 1) := by decide +kernel
theorem dX2_init_5 : decode cX2_init 5 = .ok (.bipush 32, 2) := by decide +kernel
theorem dX2_init_7 : decode cX2_init 7 = .ok (.newarray .int, 2) := by decide +kernel
theorem dX2_init_9 : decode cX2_init 9 = .ok (.putfield 9, 3) := by decide +kernel
theorem dX2_init_12 : decode cX2_init 12 = .ok (.aload_n 0, 1) := by decide +kernel
theorem dX2_init_13 : decode cX2_init 13 = .ok (.iconst 0, 1) := by decide +kernel
theorem dX2_init_14 : decode cX2_init 14 = .ok (.putfield 15, 3) := by decide +kernel
theorem dX2_init_17 : decode cX2_init 17 = .ok (.aload_n 0, 1) := by decide +kernel
theorem dX2_init_18 : decode cX2_init 18 = .ok (.iconst 2, 1) := by decide +kernel
theorem dX2_init_19 : decode cX2_init 19 = .ok (.putfield 19, 3) := by decide +kernel
theorem dX2_init_22 : decode cX2_init 22 = .ok (.return_, 1) := by decide +kernel
theorem dX2_hasStep_0 : decode cX2_hasStep 0 = .ok (.iload_n 1, 1) := by decide +kernel
theorem dX2_hasStep_1 : decode cX2_hasStep 1 = .ok (.ifCond .lt 15, 3) := by decide +kernel
theorem dX2_hasStep_4 : decode cX2_hasStep 4 = .ok (.iload_n 1, 1) := by decide +kernel
theorem dX2_hasStep_5 : decode cX2_hasStep 5 = .ok (.aload_n 0, 1) := by decide +kernel
theorem dX2_hasStep_6 : decode cX2_hasStep 6 = .ok (.getfield 15, 3) := by decide +kernel
theorem dX2_hasStep_9 : decode cX2_hasStep 9 = .ok (.if_icmp .ge 7, 3) := by decide +kernel
theorem dX2_hasStep_12 : decode cX2_hasStep 12 = .ok (.iconst 1, 1) := by decide +kernel
theorem dX2_hasStep_13 : decode cX2_hasStep 13 = .ok (.goto 4, 3) := by decide +kernel
theorem dX2_hasStep_16 : decode cX2_hasStep 16 = .ok (.iconst 0, 1) := by decide +kernel
theorem dX2_hasStep_17 : decode cX2_hasStep 17 = .ok (.ireturn, 1) := by decide +kernel
theorem dX2_hasGap_0 : decode cX2_hasGap 0 = .ok (.iload_n 1, 1) := by decide +kernel
theorem dX2_hasGap_1 : decode cX2_hasGap 1 = .ok (.ifCond .lt 15, 3) := by decide +kernel
theorem dX2_hasGap_4 : decode cX2_hasGap 4 = .ok (.iload_n 1, 1) := by decide +kernel
theorem dX2_hasGap_5 : decode cX2_hasGap 5 = .ok (.aload_n 0, 1) := by decide +kernel
theorem dX2_hasGap_6 : decode cX2_hasGap 6 = .ok (.getfield 15, 3) := by decide +kernel
theorem dX2_hasGap_9 : decode cX2_hasGap 9 = .ok (.if_icmp .gt 7, 3) := by decide +kernel
theorem dX2_hasGap_12 : decode cX2_hasGap 12 = .ok (.iconst 1, 1) := by decide +kernel
theorem dX2_hasGap_13 : decode cX2_hasGap 13 = .ok (.goto 4, 3) := by decide +kernel
theorem dX2_hasGap_16 : decode cX2_hasGap 16 = .ok (.iconst 0, 1) := by decide +kernel
theorem dX2_hasGap_17 : decode cX2_hasGap 17 = .ok (.ireturn, 1) := by decide +kernel
theorem dX2_isFull_0 : decode cX2_isFull 0 = .ok (.aload_n 0, 1) := by decide +kernel
theorem dX2_isFull_1 : decode cX2_isFull 1 = .ok (.getfield 15, 3) := by decide +kernel
theorem dX2_isFull_4 : decode cX2_isFull 4 = .ok (.aload_n 0, 1) := by decide +kernel
theorem dX2_isFull_5 : decode cX2_isFull 5 = .ok (.getfield 9, 3) := by decide +kernel
theorem dX2_isFull_8 : decode cX2_isFull 8 = .ok (.arraylength, 1) := by decide +kernel
theorem dX2_isFull_9 : decode cX2_isFull 9 = .ok (.if_icmp .lt 7, 3) := by decide +kernel
theorem dX2_isFull_12 : decode cX2_isFull 12 = .ok (.iconst 1, 1) := by decide +kernel
theorem dX2_isFull_13 : decode cX2_isFull 13 = .ok (.goto 4, 3) := by decide +kernel
theorem dX2_isFull_16 : decode cX2_isFull 16 = .ok (.iconst 0, 1) := by decide +kernel
theorem dX2_isFull_17 : decode cX2_isFull 17 = .ok (.ireturn, 1) := by decide +kernel
set_option maxRecDepth 20000 in
theorem ggX2_at_X2_hasStep : GoodIn wsX2_at wsX2_hasStep := goodIn_r _ [6, 7, 8, 9, 10] (by decide +kernel) (by decide +kernel)
set_option maxRecDepth 20000 in
theorem gX2_at_X2_hasStep : GoodIn wsX2_at (wsV RX2 22 RX2 yX2_hasStep wsX2_hasStep) := goodIn_app (goodIn_of _ (by decide +kernel)) ggX2_at_X2_hasStep
theorem dX2_at_0 : decode cX2_at 0 = .ok (.aload_n 0, 1) := by decide +kernel
theorem dX2_at_1 : decode cX2_at 1 = .ok (.iload_n 1, 1) := by decide +kernel
theorem dX2_at_2 : decode cX2_at 2 = .ok (.invokevirtual 22, 3) := by decide +kernel
theorem dX2_at_5 : decode cX2_at 5 = .ok (.ifCond .eq 12, 3) := by decide +kernel
theorem dX2_at_8 : decode cX2_at 8 = .ok (.aload_n 0, 1) := by decide +kernel
theorem dX2_at_9 : decode cX2_at 9 = .ok (.getfield 9, 3) := by decide +kernel
theorem dX2_at_12 : decode cX2_at 12 = .ok (.iload_n 1, 1) := by decide +kernel
theorem dX2_at_13 : decode cX2_at 13 = .ok (.iaload, 1) := by decide +kernel
theorem dX2_at_14 : decode cX2_at 14 = .ok (.goto 4, 3) := by decide +kernel
theorem dX2_at_17 : decode cX2_at 17 = .ok (.iconst 0, 1) := by decide +kernel
theorem dX2_at_18 : decode cX2_at 18 = .ok (.ireturn, 1) := by decide +kernel
set_option maxRecDepth 20000 in
theorem ggX2_change_X2_hasStep : GoodIn wsX2_change wsX2_hasStep := goodIn_r _ [6, 7, 8, 9, 10] (by decide +kernel) (by decide +kernel)
set_option maxRecDepth 20000 in
theorem gX2_change_X2_hasStep : GoodIn wsX2_change (wsV RX2 22 RX2 yX2_hasStep wsX2_hasStep) := goodIn_app (goodIn_of _ (by decide +kernel)) ggX2_change_X2_hasStep
theorem dX2_change_0 : decode cX2_change 0 = .ok (.aload_n 0, 1) := by decide +kernel
theorem dX2_change_1 : decode cX2_change 1 = .ok (.iload_n 1, 1) := by decide +kernel
theorem dX2_change_2 : decode cX2_change 2 = .ok (.invokevirtual 22, 3) := by decide +kernel
theorem dX2_change_5 : decode cX2_change 5 = .ok (.ifCond .eq 10, 3) := by decide +kernel
theorem dX2_change_8 : decode cX2_change 8 = .ok (.aload_n 0, 1) := by decide +kernel
theorem dX2_change_9 : decode cX2_change 9 = .ok (.getfield 9, 3) := by decide +kernel
theorem dX2_change_12 : decode cX2_change 12 = .ok (.iload_n 1, 1) := by decide +kernel
theorem dX2_change_13 : decode cX2_change 13 = .ok (.iload_n 2, 1) := by decide +kernel
theorem dX2_change_14 : decode cX2_change 14 = .ok (.iastore, 1) := by decide +kernel
theorem dX2_change_15 : decode cX2_change 15 = .ok (.return_, 1) := by decide +kernel
set_option maxRecDepth 20000 in
theorem ggX2_add_X2_isFull : GoodIn wsX2_add wsX2_isFull := goodIn_r _ [7, 2, 1, 8, 9, 10] (by decide +kernel) (by decide +kernel)
set_option maxRecDepth 20000 in
theorem gX2_add_X2_isFull : GoodIn wsX2_add (wsV RX2 28 RX2 yX2_isFull wsX2_isFull) := goodIn_app (goodIn_of _ (by decide +kernel)) ggX2_add_X2_isFull
theorem dX2_add_0 : decode cX2_add 0 = .ok (.aload_n 0, 1) := by decide +kernel
theorem dX2_add_1 : decode cX2_add 1 = .ok (.invokevirtual 28, 3) := by decide +kernel
theorem dX2_add_4 : decode cX2_add 4 = .ok (.ifCond .eq 5, 3) := by decide +kernel
theorem dX2_add_7 : decode cX2_add 7 = .ok (.iconst 0, 1) := by decide +kernel
theorem dX2_add_8 : decode cX2_add 8 = .ok (.ireturn, 1) := by decide +kernel
theorem dX2_add_9 : decode cX2_add 9 = .ok (.aload_n 0, 1) := by decide +kernel
theorem dX2_add_10 : decode cX2_add 10 = .ok (.getfield 9, 3) := by decide +kernel
theorem dX2_add_13 : decode cX2_add 13 = .ok (.aload_n 0, 1) := by decide +kernel
theorem dX2_add_14 : decode cX2_add 14 = .ok (.getfield 15, 3) := by decide +kernel
theorem dX2_add_17 : decode cX2_add 17 = .ok (.iload_n 1, 1) := by decide +kernel
theorem dX2_add_18 : decode cX2_add 18 = .ok (.iastore, 1) := by decide +kernel
theorem dX2_add_19 : decode cX2_add 19 = .ok (.aload_n 0, 1) := by decide +kernel
theorem dX2_add_20 : decode cX2_add 20 = .ok (.dup, 1) := by decide +kernel
theorem dX2_add_21 : decode cX2_add 21 = .ok (.getfield 15, 3) := by decide +kernel
theorem dX2_add_24 : decode cX2_add 24 = .ok (.iconst 1, 1) := by decide +kernel
theorem dX2_add_25 : decode cX2_add 25 = .ok (.iadd, 1) := by decide +kernel
theorem dX2_add_26 : decode cX2_add 26 = .ok (.putfield 15, 3) := by decide +kernel
theorem dX2_add_29 : decode cX2_add 29 = .ok (.iconst 1, 1) := by decide +kernel
theorem dX2_add_30 : decode cX2_add 30 = .ok (.ireturn, 1) := by decide +kernel
set_option maxRecDepth 20000 in
theorem ggX2_insert_X2_hasGap : GoodIn wsX2_insert wsX2_hasGap := goodIn_r _ [7, 1, 16, 17, 18] (by decide +kernel) (by decide +kernel)
set_option maxRecDepth 20000 in
theorem gX2_insert_X2_hasGap : GoodIn wsX2_insert (wsV RX2 32 RX2 yX2_hasGap wsX2_hasGap) := goodIn_app (goodIn_of _ (by decide +kernel)) ggX2_insert_X2_hasGap
set_option maxRecDepth 20000 in
theorem ggX2_insert_X2_add : GoodIn wsX2_insert wsX2_add := goodIn_r _ [11, 2, 1, 12, 13, 14, 6, 15, 16, 17, 18] (by decide +kernel) (by decide +kernel)
set_option maxRecDepth 20000 in
theorem gX2_insert_X2_add : GoodIn wsX2_insert (wsV RX2 35 RX2 yX2_add wsX2_add) := goodIn_app (goodIn_of _ (by decide +kernel)) ggX2_insert_X2_add
theorem dX2_insert_0 : decode cX2_insert 0 = .ok (.aload_n 0, 1) := by decide +kernel
theorem dX2_insert_1 : decode cX2_insert 1 = .ok (.iload_n 1, 1) := by decide +kernel
theorem dX2_insert_2 : decode cX2_insert 2 = .ok (.invokevirtual 32, 3) := by decide +kernel
theorem dX2_insert_5 : decode cX2_insert 5 = .ok (.ifCond .eq 11, 3) := by decide +kernel
theorem dX2_insert_8 : decode cX2_insert 8 = .ok (.aload_n 0, 1) := by decide +kernel
theorem dX2_insert_9 : decode cX2_insert 9 = .ok (.iload_n 2, 1) := by decide +kernel
theorem dX2_insert_10 : decode cX2_insert 10 = .ok (.invokevirtual 35, 3) := by decide +kernel
theorem dX2_insert_13 : decode cX2_insert 13 = .ok (.ifCond .ne 4, 3) := by decide +kernel
theorem dX2_insert_16 : decode cX2_insert 16 = .ok (.return_, 1) := by decide +kernel
theorem dX2_insert_17 : decode cX2_insert 17 = .ok (.aload_n 0, 1) := by decide +kernel
theorem dX2_insert_18 : decode cX2_insert 18 = .ok (.getfield 15, 3) := by decide +kernel
theorem dX2_insert_21 : decode cX2_insert 21 = .ok (.iconst 1, 1) := by decide +kernel
theorem dX2_insert_22 : decode cX2_insert 22 = .ok (.isub, 1) := by decide +kernel
theorem dX2_insert_23 : decode cX2_insert 23 = .ok (.istore_n 3, 1) := by decide +kernel
theorem dX2_insert_24 : decode cX2_insert 24 = .ok (.iload_n 3, 1) := by decide +kernel
theorem dX2_insert_25 : decode cX2_insert 25 = .ok (.iload_n 1, 1) := by decide +kernel
theorem dX2_insert_26 : decode cX2_insert 26 = .ok (.if_icmp .le 23, 3) := by decide +kernel
theorem dX2_insert_29 : decode cX2_insert 29 = .ok (.aload_n 0, 1) := by decide +kernel
theorem dX2_insert_30 : decode cX2_insert 30 = .ok (.getfield 9, 3) := by decide +kernel
theorem dX2_insert_33 : decode cX2_insert 33 = .ok (.iload_n 3, 1) := by decide +kernel
theorem dX2_insert_34 : decode cX2_insert 34 = .ok (.aload_n 0, 1) := by decide +kernel
theorem dX2_insert_35 : decode cX2_insert 35 = .ok (.getfield 9, 3) := by decide +kernel
theorem dX2_insert_38 : decode cX2_insert 38 = .ok (.iload_n 3, 1) := by decide +kernel
theorem dX2_insert_39 : decode cX2_insert 39 = .ok (.iconst 1, 1) := by decide +kernel
theorem dX2_insert_40 : decode cX2_insert 40 = .ok (.isub, 1) := by decide +kernel
theorem dX2_insert_41 : decode cX2_insert 41 = .ok (.iaload, 1) := by decide +kernel
theorem dX2_insert_42 : decode cX2_insert 42 = .ok (.iastore, 1) := by decide +kernel
theorem dX2_insert_43 : decode cX2_insert 43 = .ok (.iinc 3 (-1), 3) := by decide +kernel
theorem dX2_insert_46 : decode cX2_insert 46 = .ok (.goto (-22), 3) := by decide +kernel
theorem dX2_insert_49 : decode cX2_insert 49 = .ok (.aload_n 0, 1) := by decide +kernel
theorem dX2_insert_50 : decode cX2_insert 50 = .ok (.getfield 9, 3) := by decide +kernel
theorem dX2_insert_53 : decode cX2_insert 53 = .ok (.iload_n 1, 1) := by decide +kernel
theorem dX2_insert_54 : decode cX2_insert 54 = .ok (.iload_n 2, 1) := by decide +kernel
theorem dX2_insert_55 : decode cX2_insert 55 = .ok (.iastore, 1) := by decide +kernel
theorem dX2_insert_56 : decode cX2_insert 56 = .ok (.return_, 1) := by decide +kernel
set_option maxRecDepth 20000 in
theorem ggX2_remove_X2_hasStep : GoodIn wsX2_remove wsX2_hasStep := goodIn_r _ [7, 1, 8, 9, 10] (by decide +kernel) (by decide +kernel)
set_option maxRecDepth 20000 in
theorem gX2_remove_X2_hasStep : GoodIn wsX2_remove (wsV RX2 22 RX2 yX2_hasStep wsX2_hasStep) := goodIn_app (goodIn_of _ (by decide +kernel)) ggX2_remove_X2_hasStep
theorem dX2_remove_0 : decode cX2_remove 0 = .ok (.aload_n 0, 1) := by decide +kernel
theorem dX2_remove_1 : decode cX2_remove 1 = .ok (.iload_n 1, 1) := by decide +kernel
theorem dX2_remove_2 : decode cX2_remove 2 = .ok (.invokevirtual 22, 3) := by decide +kernel
theorem dX2_remove_5 : decode cX2_remove 5 = .ok (.ifCond .eq 16, 3) := by decide +kernel
theorem dX2_remove_8 : decode cX2_remove 8 = .ok (.aload_n 0, 1) := by decide +kernel
theorem dX2_remove_9 : decode cX2_remove 9 = .ok (.iload_n 2, 1) := by decide +kernel
theorem dX2_remove_10 : decode cX2_remove 10 = .ok (.invokevirtual 22, 3) := by decide +kernel
theorem dX2_remove_13 : decode cX2_remove 13 = .ok (.ifCond .eq 8, 3) := by decide +kernel
theorem dX2_remove_16 : decode cX2_remove 16 = .ok (.iload_n 2, 1) := by decide +kernel
theorem dX2_remove_17 : decode cX2_remove 17 = .ok (.iload_n 1, 1) := by decide +kernel
theorem dX2_remove_18 : decode cX2_remove 18 = .ok (.if_icmp .ge 4, 3) := by decide +kernel
theorem dX2_remove_21 : decode cX2_remove 21 = .ok (.return_, 1) := by decide +kernel
theorem dX2_remove_22 : decode cX2_remove 22 = .ok (.iload_n 2, 1) := by decide +kernel
theorem dX2_remove_23 : decode cX2_remove 23 = .ok (.iload_n 1, 1) := by decide +kernel
theorem dX2_remove_24 : decode cX2_remove 24 = .ok (.isub, 1) := by decide +kernel
theorem dX2_remove_25 : decode cX2_remove 25 = .ok (.iconst 1, 1) := by decide +kernel
theorem dX2_remove_26 : decode cX2_remove 26 = .ok (.iadd, 1) := by decide +kernel
theorem dX2_remove_27 : decode cX2_remove 27 = .ok (.istore_n 3, 1) := by decide +kernel
theorem dX2_remove_28 : decode cX2_remove 28 = .ok (.iload_n 1, 1) := by decide +kernel
theorem dX2_remove_29 : decode cX2_remove 29 = .ok (.istore 4, 2) := by decide +kernel
theorem dX2_remove_31 : decode cX2_remove 31 = .ok (.iload 4, 2) := by decide +kernel
theorem dX2_remove_33 : decode cX2_remove 33 = .ok (.iload_n 3, 1) := by decide +kernel
theorem dX2_remove_34 : decode cX2_remove 34 = .ok (.iadd, 1) := by decide +kernel
theorem dX2_remove_35 : decode cX2_remove 35 = .ok (.aload_n 0, 1) := by decide +kernel
theorem dX2_remove_36 : decode cX2_remove 36 = .ok (.getfield 15, 3) := by decide +kernel
theorem dX2_remove_39 : decode cX2_remove 39 = .ok (.if_icmp .ge 25, 3) := by decide +kernel
theorem dX2_remove_42 : decode cX2_remove 42 = .ok (.aload_n 0, 1) := by decide +kernel
theorem dX2_remove_43 : decode cX2_remove 43 = .ok (.getfield 9, 3) := by decide +kernel
theorem dX2_remove_46 : decode cX2_remove 46 = .ok (.iload 4, 2) := by decide +kernel
theorem dX2_remove_48 : decode cX2_remove 48 = .ok (.aload_n 0, 1) := by decide +kernel
theorem dX2_remove_49 : decode cX2_remove 49 = .ok (.getfield 9, 3) := by decide +kernel
theorem dX2_remove_52 : decode cX2_remove 52 = .ok (.iload 4, 2) := by decide +kernel
theorem dX2_remove_54 : decode cX2_remove 54 = .ok (.iload_n 3, 1) := by decide +kernel
theorem dX2_remove_55 : decode cX2_remove 55 = .ok (.iadd, 1) := by decide +kernel
theorem dX2_remove_56 : decode cX2_remove 56 = .ok (.iaload, 1) := by decide +kernel
theorem dX2_remove_57 : decode cX2_remove 57 = .ok (.iastore, 1) := by decide +kernel
theorem dX2_remove_58 : decode cX2_remove 58 = .ok (.iinc 4 1, 3) := by decide +kernel
theorem dX2_remove_61 : decode cX2_remove 61 = .ok (.goto (-30), 3) := by decide +kernel
theorem dX2_remove_64 : decode cX2_remove 64 = .ok (.aload_n 0, 1) := by decide +kernel
theorem dX2_remove_65 : decode cX2_remove 65 = .ok (.dup, 1) := by decide +kernel
theorem dX2_remove_66 : decode cX2_remove 66 = .ok (.getfield 15, 3) := by decide +kernel
theorem dX2_remove_69 : decode cX2_remove 69 = .ok (.iload_n 3, 1) := by decide +kernel
theorem dX2_remove_70 : decode cX2_remove 70 = .ok (.isub, 1) := by decide +kernel
theorem dX2_remove_71 : decode cX2_remove 71 = .ok (.putfield 15, 3) := by decide +kernel
theorem dX2_remove_74 : decode cX2_remove 74 = .ok (.return_, 1) := by decide +kernel
set_option maxRecDepth 20000 in
theorem ggX2_copy_X2_copySteps : GoodIn wsX2_copy wsX2_copySteps := goodIn_r _ [6, 7, 8, 9, 10, 11] (by decide +kernel) (by decide +kernel)
set_option maxRecDepth 20000 in
theorem gX2_copy_X2_copySteps : GoodIn wsX2_copy (wsV RX2 38 RX2 yX2_copySteps wsX2_copySteps) := goodIn_app (goodIn_of _ (by decide +kernel)) ggX2_copy_X2_copySteps
theorem dX2_copy_0 : decode cX2_copy 0 = .ok (.aload_n 0, 1) := by decide +kernel
theorem dX2_copy_1 : decode cX2_copy 1 = .ok (.aload_n 1, 1) := by decide +kernel
theorem dX2_copy_2 : decode cX2_copy 2 = .ok (.invokevirtual 38, 3) := by decide +kernel
theorem dX2_copy_5 : decode cX2_copy 5 = .ok (.aload_n 0, 1) := by decide +kernel
theorem dX2_copy_6 : decode cX2_copy 6 = .ok (.aload_n 1, 1) := by decide +kernel
theorem dX2_copy_7 : decode cX2_copy 7 = .ok (.getfield 19, 3) := by decide +kernel
theorem dX2_copy_10 : decode cX2_copy 10 = .ok (.putfield 19, 3) := by decide +kernel
theorem dX2_copy_13 : decode cX2_copy 13 = .ok (.return_, 1) := by decide +kernel
theorem dX2_copySteps_0 : decode cX2_copySteps 0 = .ok (.aload_n 0, 1) := by decide +kernel
theorem dX2_copySteps_1 : decode cX2_copySteps 1 = .ok (.aload_n 1, 1) := by decide +kernel
theorem dX2_copySteps_2 : decode cX2_copySteps 2 = .ok (.getfield 15, 3) := by decide +kernel
theorem dX2_copySteps_5 : decode cX2_copySteps 5 = .ok (.putfield 15, 3) := by decide +kernel
theorem dX2_copySteps_8 : decode cX2_copySteps 8 = .ok (.iconst 0, 1) := by decide +kernel
theorem dX2_copySteps_9 : decode cX2_copySteps 9 = .ok (.istore_n 2, 1) := by decide +kernel
theorem dX2_copySteps_10 : decode cX2_copySteps 10 = .ok (.iload_n 2, 1) := by decide +kernel
theorem dX2_copySteps_11 : decode cX2_copySteps 11 = .ok (.aload_n 0, 1) := by decide +kernel
theorem dX2_copySteps_12 : decode cX2_copySteps 12 = .ok (.getfield 15, 3) := by decide +kernel
theorem dX2_copySteps_15 : decode cX2_copySteps 15 = .ok (.if_icmp .ge 21, 3) := by decide +kernel
theorem dX2_copySteps_18 : decode cX2_copySteps 18 = .ok (.aload_n 0, 1) := by decide +kernel
theorem dX2_copySteps_19 : decode cX2_copySteps 19 = .ok (.getfield 9, 3) := by decide +kernel
theorem dX2_copySteps_22 : decode cX2_copySteps 22 = .ok (.iload_n 2, 1) := by decide +kernel
theorem dX2_copySteps_23 : decode cX2_copySteps 23 = .ok (.aload_n 1, 1) := by decide +kernel
theorem dX2_copySteps_24 : decode cX2_copySteps 24 = .ok (.getfield 9, 3) := by decide +kernel
theorem dX2_copySteps_27 : decode cX2_copySteps 27 = .ok (.iload_n 2, 1) := by decide +kernel
theorem dX2_copySteps_28 : decode cX2_copySteps 28 = .ok (.iaload, 1) := by decide +kernel
theorem dX2_copySteps_29 : decode cX2_copySteps 29 = .ok (.iastore, 1) := by decide +kernel
theorem dX2_copySteps_30 : decode cX2_copySteps 30 = .ok (.iinc 2 1, 3) := by decide +kernel
theorem dX2_copySteps_33 : decode cX2_copySteps 33 = .ok (.goto (-23), 3) := by decide +kernel
theorem dX2_copySteps_36 : decode cX2_copySteps 36 = .ok (.return_, 1) := by decide +kernel
set_option maxRecDepth 20000 in
theorem ggX2_strokes_X5_isStroke : GoodIn wsX2_strokes wsX5_isStroke := goodIn_r _ [6] (by decide +kernel) (by decide +kernel)
set_option maxRecDepth 20000 in
theorem gX2_strokes_X5_isStroke : GoodIn wsX2_strokes (va_wsS RX2 42 yX5_isStroke wsX5_isStroke) := goodIn_app (goodIn_of _ (by decide +kernel)) ggX2_strokes_X5_isStroke
theorem dX2_strokes_0 : decode cX2_strokes 0 = .ok (.iconst 0, 1) := by decide +kernel
theorem dX2_strokes_1 : decode cX2_strokes 1 = .ok (.istore_n 1, 1) := by decide +kernel
theorem dX2_strokes_2 : decode cX2_strokes 2 = .ok (.iconst 0, 1) := by decide +kernel
theorem dX2_strokes_3 : decode cX2_strokes 3 = .ok (.istore_n 2, 1) := by decide +kernel
theorem dX2_strokes_4 : decode cX2_strokes 4 = .ok (.iload_n 2, 1) := by decide +kernel
theorem dX2_strokes_5 : decode cX2_strokes 5 = .ok (.aload_n 0, 1) := by decide +kernel
theorem dX2_strokes_6 : decode cX2_strokes 6 = .ok (.getfield 15, 3) := by decide +kernel
theorem dX2_strokes_9 : decode cX2_strokes 9 = .ok (.if_icmp .ge 29, 3) := by decide +kernel
theorem dX2_strokes_12 : decode cX2_strokes 12 = .ok (.iload_n 1, 1) := by decide +kernel
theorem dX2_strokes_13 : decode cX2_strokes 13 = .ok (.aload_n 0, 1) := by decide +kernel
theorem dX2_strokes_14 : decode cX2_strokes 14 = .ok (.getfield 9, 3) := by decide +kernel
theorem dX2_strokes_17 : decode cX2_strokes 17 = .ok (.iload_n 2, 1) := by decide +kernel
theorem dX2_strokes_18 : decode cX2_strokes 18 = .ok (.iaload, 1) := by decide +kernel
theorem dX2_strokes_19 : decode cX2_strokes 19 = .ok (.invokestatic 42, 3) := by decide +kernel
theorem dX2_strokes_22 : decode cX2_strokes 22 = .ok (.ifCond .eq 7, 3) := by decide +kernel
theorem dX2_strokes_25 : decode cX2_strokes 25 = .ok (.iconst 1, 1) := by decide +kernel
theorem dX2_strokes_26 : decode cX2_strokes 26 = .ok (.goto 4, 3) := by decide +kernel
theorem dX2_strokes_29 : decode cX2_strokes 29 = .ok (.iconst 0, 1) := by decide +kernel
theorem dX2_strokes_30 : decode cX2_strokes 30 = .ok (.iadd, 1) := by decide +kernel
theorem dX2_strokes_31 : decode cX2_strokes 31 = .ok (.istore_n 1, 1) := by decide +kernel
theorem dX2_strokes_32 : decode cX2_strokes 32 = .ok (.iinc 2 1, 3) := by decide +kernel
theorem dX2_strokes_35 : decode cX2_strokes 35 = .ok (.goto (-31), 3) := by decide +kernel
theorem dX2_strokes_38 : decode cX2_strokes 38 = .ok (.iload_n 1, 1) := by decide +kernel
theorem dX2_strokes_39 : decode cX2_strokes 39 = .ok (.ireturn, 1) := by decide +kernel
set_option maxRecDepth 20000 in
theorem ggX2_strokesOf_X5_isStroke : GoodIn wsX2_strokesOf wsX5_isStroke := goodIn_r _ [6] (by decide +kernel) (by decide +kernel)
set_option maxRecDepth 20000 in
theorem gX2_strokesOf_X5_isStroke : GoodIn wsX2_strokesOf (va_wsS RX2 42 yX5_isStroke wsX5_isStroke) := goodIn_app (goodIn_of _ (by decide +kernel)) ggX2_strokesOf_X5_isStroke
set_option maxRecDepth 20000 in
theorem ggX2_strokesOf_X5_hand : GoodIn wsX2_strokesOf wsX5_hand := goodIn_r _ [9] (by decide +kernel) (by decide +kernel)
set_option maxRecDepth 20000 in
theorem gX2_strokesOf_X5_hand : GoodIn wsX2_strokesOf (va_wsS RX2 45 yX5_hand wsX5_hand) := goodIn_app (goodIn_of _ (by decide +kernel)) ggX2_strokesOf_X5_hand
theorem dX2_strokesOf_0 : decode cX2_strokesOf 0 = .ok (.iconst 0, 1) := by decide +kernel
theorem dX2_strokesOf_1 : decode cX2_strokesOf 1 = .ok (.istore_n 2, 1) := by decide +kernel
theorem dX2_strokesOf_2 : decode cX2_strokesOf 2 = .ok (.iconst 0, 1) := by decide +kernel
theorem dX2_strokesOf_3 : decode cX2_strokesOf 3 = .ok (.istore_n 3, 1) := by decide +kernel
theorem dX2_strokesOf_4 : decode cX2_strokesOf 4 = .ok (.iload_n 3, 1) := by decide +kernel
theorem dX2_strokesOf_5 : decode cX2_strokesOf 5 = .ok (.aload_n 0, 1) := by decide +kernel
theorem dX2_strokesOf_6 : decode cX2_strokesOf 6 = .ok (.getfield 15, 3) := by decide +kernel
theorem dX2_strokesOf_9 : decode cX2_strokesOf 9 = .ok (.if_icmp .ge 42, 3) := by decide +kernel
theorem dX2_strokesOf_12 : decode cX2_strokesOf 12 = .ok (.aload_n 0, 1) := by decide +kernel
theorem dX2_strokesOf_13 : decode cX2_strokesOf 13 = .ok (.getfield 9, 3) := by decide +kernel
theorem dX2_strokesOf_16 : decode cX2_strokesOf 16 = .ok (.iload_n 3, 1) := by decide +kernel
theorem dX2_strokesOf_17 : decode cX2_strokesOf 17 = .ok (.iaload, 1) := by decide +kernel
theorem dX2_strokesOf_18 : decode cX2_strokesOf 18 = .ok (.istore 4, 2) := by decide +kernel
theorem dX2_strokesOf_20 : decode cX2_strokesOf 20 = .ok (.iload_n 2, 1) := by decide +kernel
theorem dX2_strokesOf_21 : decode cX2_strokesOf 21 = .ok (.iload 4, 2) := by decide +kernel
theorem dX2_strokesOf_23 : decode cX2_strokesOf 23 = .ok (.invokestatic 42, 3) := by decide +kernel
theorem dX2_strokesOf_26 : decode cX2_strokesOf 26 = .ok (.ifCond .eq 16, 3) := by decide +kernel
theorem dX2_strokesOf_29 : decode cX2_strokesOf 29 = .ok (.iload 4, 2) := by decide +kernel
theorem dX2_strokesOf_31 : decode cX2_strokesOf 31 = .ok (.invokestatic 45, 3) := by decide +kernel
theorem dX2_strokesOf_34 : decode cX2_strokesOf 34 = .ok (.iload_n 1, 1) := by decide +kernel
theorem dX2_strokesOf_35 : decode cX2_strokesOf 35 = .ok (.if_icmp .ne 7, 3) := by decide +kernel
theorem dX2_strokesOf_38 : decode cX2_strokesOf 38 = .ok (.iconst 1, 1) := by decide +kernel
theorem dX2_strokesOf_39 : decode cX2_strokesOf 39 = .ok (.goto 4, 3) := by decide +kernel
theorem dX2_strokesOf_42 : decode cX2_strokesOf 42 = .ok (.iconst 0, 1) := by decide +kernel
theorem dX2_strokesOf_43 : decode cX2_strokesOf 43 = .ok (.iadd, 1) := by decide +kernel
theorem dX2_strokesOf_44 : decode cX2_strokesOf 44 = .ok (.istore_n 2, 1) := by decide +kernel
theorem dX2_strokesOf_45 : decode cX2_strokesOf 45 = .ok (.iinc 3 1, 3) := by decide +kernel
theorem dX2_strokesOf_48 : decode cX2_strokesOf 48 = .ok (.goto (-44), 3) := by decide +kernel
theorem dX2_strokesOf_51 : decode cX2_strokesOf 51 = .ok (.iload_n 2, 1) := by decide +kernel
theorem dX2_strokesOf_52 : decode cX2_strokesOf 52 = .ok (.ireturn, 1) := by decide +kernel
set_option maxRecDepth 20000 in
theorem ggX2_strokesWith_X5_isStroke : GoodIn wsX2_strokesWith wsX5_isStroke := goodIn_r _ [6] (by decide +kernel) (by decide +kernel)
set_option maxRecDepth 20000 in
theorem gX2_strokesWith_X5_isStroke : GoodIn wsX2_strokesWith (va_wsS RX2 42 yX5_isStroke wsX5_isStroke) := goodIn_app (goodIn_of _ (by decide +kernel)) ggX2_strokesWith_X5_isStroke
set_option maxRecDepth 20000 in
theorem ggX2_strokesWith_X5_ornament : GoodIn wsX2_strokesWith wsX5_ornament := goodIn_r _ [9] (by decide +kernel) (by decide +kernel)
set_option maxRecDepth 20000 in
theorem gX2_strokesWith_X5_ornament : GoodIn wsX2_strokesWith (va_wsS RX2 49 yX5_ornament wsX5_ornament) := goodIn_app (goodIn_of _ (by decide +kernel)) ggX2_strokesWith_X5_ornament
theorem dX2_strokesWith_0 : decode cX2_strokesWith 0 = .ok (.iconst 0, 1) := by decide +kernel
theorem dX2_strokesWith_1 : decode cX2_strokesWith 1 = .ok (.istore_n 2, 1) := by decide +kernel
theorem dX2_strokesWith_2 : decode cX2_strokesWith 2 = .ok (.iconst 0, 1) := by decide +kernel
theorem dX2_strokesWith_3 : decode cX2_strokesWith 3 = .ok (.istore_n 3, 1) := by decide +kernel
theorem dX2_strokesWith_4 : decode cX2_strokesWith 4 = .ok (.iload_n 3, 1) := by decide +kernel
theorem dX2_strokesWith_5 : decode cX2_strokesWith 5 = .ok (.aload_n 0, 1) := by decide +kernel
theorem dX2_strokesWith_6 : decode cX2_strokesWith 6 = .ok (.getfield 15, 3) := by decide +kernel
theorem dX2_strokesWith_9 : decode cX2_strokesWith 9 = .ok (.if_icmp .ge 42, 3) := by decide +kernel
theorem dX2_strokesWith_12 : decode cX2_strokesWith 12 = .ok (.aload_n 0, 1) := by decide +kernel
theorem dX2_strokesWith_13 : decode cX2_strokesWith 13 = .ok (.getfield 9, 3) := by decide +kernel
theorem dX2_strokesWith_16 : decode cX2_strokesWith 16 = .ok (.iload_n 3, 1) := by decide +kernel
theorem dX2_strokesWith_17 : decode cX2_strokesWith 17 = .ok (.iaload, 1) := by decide +kernel
theorem dX2_strokesWith_18 : decode cX2_strokesWith 18 = .ok (.istore 4, 2) := by decide +kernel
theorem dX2_strokesWith_20 : decode cX2_strokesWith 20 = .ok (.iload_n 2, 1) := by decide +kernel
theorem dX2_strokesWith_21 : decode cX2_strokesWith 21 = .ok (.iload 4, 2) := by decide +kernel
theorem dX2_strokesWith_23 : decode cX2_strokesWith 23 = .ok (.invokestatic 42, 3) := by decide +kernel
theorem dX2_strokesWith_26 : decode cX2_strokesWith 26 = .ok (.ifCond .eq 16, 3) := by decide +kernel
theorem dX2_strokesWith_29 : decode cX2_strokesWith 29 = .ok (.iload 4, 2) := by decide +kernel
theorem dX2_strokesWith_31 : decode cX2_strokesWith 31 = .ok (.invokestatic 49, 3) := by decide +kernel
theorem dX2_strokesWith_34 : decode cX2_strokesWith 34 = .ok (.iload_n 1, 1) := by decide +kernel
theorem dX2_strokesWith_35 : decode cX2_strokesWith 35 = .ok (.if_icmp .ne 7, 3) := by decide +kernel
theorem dX2_strokesWith_38 : decode cX2_strokesWith 38 = .ok (.iconst 1, 1) := by decide +kernel
theorem dX2_strokesWith_39 : decode cX2_strokesWith 39 = .ok (.goto 4, 3) := by decide +kernel
theorem dX2_strokesWith_42 : decode cX2_strokesWith 42 = .ok (.iconst 0, 1) := by decide +kernel
theorem dX2_strokesWith_43 : decode cX2_strokesWith 43 = .ok (.iadd, 1) := by decide +kernel
theorem dX2_strokesWith_44 : decode cX2_strokesWith 44 = .ok (.istore_n 2, 1) := by decide +kernel
theorem dX2_strokesWith_45 : decode cX2_strokesWith 45 = .ok (.iinc 3 1, 3) := by decide +kernel
theorem dX2_strokesWith_48 : decode cX2_strokesWith 48 = .ok (.goto (-44), 3) := by decide +kernel
theorem dX2_strokesWith_51 : decode cX2_strokesWith 51 = .ok (.iload_n 2, 1) := by decide +kernel
theorem dX2_strokesWith_52 : decode cX2_strokesWith 52 = .ok (.ireturn, 1) := by decide +kernel
set_option maxRecDepth 20000 in
theorem ggX2_accents_X5_isAccented : GoodIn wsX2_accents wsX5_isAccented := goodIn_r _ [6] (by decide +kernel) (by decide +kernel)
set_option maxRecDepth 20000 in
theorem gX2_accents_X5_isAccented : GoodIn wsX2_accents (va_wsS RX2 52 yX5_isAccented wsX5_isAccented) := goodIn_app (goodIn_of _ (by decide +kernel)) ggX2_accents_X5_isAccented
theorem dX2_accents_0 : decode cX2_accents 0 = .ok (.iconst 0, 1) := by decide +kernel
theorem dX2_accents_1 : decode cX2_accents 1 = .ok (.istore_n 1, 1) := by decide +kernel
theorem dX2_accents_2 : decode cX2_accents 2 = .ok (.iconst 0, 1) := by decide +kernel
theorem dX2_accents_3 : decode cX2_accents 3 = .ok (.istore_n 2, 1) := by decide +kernel
theorem dX2_accents_4 : decode cX2_accents 4 = .ok (.iload_n 2, 1) := by decide +kernel
theorem dX2_accents_5 : decode cX2_accents 5 = .ok (.aload_n 0, 1) := by decide +kernel
theorem dX2_accents_6 : decode cX2_accents 6 = .ok (.getfield 15, 3) := by decide +kernel
theorem dX2_accents_9 : decode cX2_accents 9 = .ok (.if_icmp .ge 29, 3) := by decide +kernel
theorem dX2_accents_12 : decode cX2_accents 12 = .ok (.iload_n 1, 1) := by decide +kernel
theorem dX2_accents_13 : decode cX2_accents 13 = .ok (.aload_n 0, 1) := by decide +kernel
theorem dX2_accents_14 : decode cX2_accents 14 = .ok (.getfield 9, 3) := by decide +kernel
theorem dX2_accents_17 : decode cX2_accents 17 = .ok (.iload_n 2, 1) := by decide +kernel
theorem dX2_accents_18 : decode cX2_accents 18 = .ok (.iaload, 1) := by decide +kernel
theorem dX2_accents_19 : decode cX2_accents 19 = .ok (.invokestatic 52, 3) := by decide +kernel
theorem dX2_accents_22 : decode cX2_accents 22 = .ok (.ifCond .eq 7, 3) := by decide +kernel
theorem dX2_accents_25 : decode cX2_accents 25 = .ok (.iconst 1, 1) := by decide +kernel
theorem dX2_accents_26 : decode cX2_accents 26 = .ok (.goto 4, 3) := by decide +kernel
theorem dX2_accents_29 : decode cX2_accents 29 = .ok (.iconst 0, 1) := by decide +kernel
theorem dX2_accents_30 : decode cX2_accents 30 = .ok (.iadd, 1) := by decide +kernel
theorem dX2_accents_31 : decode cX2_accents 31 = .ok (.istore_n 1, 1) := by decide +kernel
theorem dX2_accents_32 : decode cX2_accents 32 = .ok (.iinc 2 1, 3) := by decide +kernel
theorem dX2_accents_35 : decode cX2_accents 35 = .ok (.goto (-31), 3) := by decide +kernel
theorem dX2_accents_38 : decode cX2_accents 38 = .ok (.iload_n 1, 1) := by decide +kernel
theorem dX2_accents_39 : decode cX2_accents 39 = .ok (.ireturn, 1) := by decide +kernel
set_option maxRecDepth 20000 in
theorem ggX2_blows_X5_blows : GoodIn wsX2_blows wsX5_blows := goodIn_r _ [6, 7, 8, 5, 9, 10, 11, 12, 13, 14, 15] (by decide +kernel) (by decide +kernel)
set_option maxRecDepth 20000 in
theorem gX2_blows_X5_blows : GoodIn wsX2_blows (va_wsS RX2 55 yX5_blows wsX5_blows) := goodIn_app (goodIn_of _ (by decide +kernel)) ggX2_blows_X5_blows
theorem dX2_blows_0 : decode cX2_blows 0 = .ok (.iconst 0, 1) := by decide +kernel
theorem dX2_blows_1 : decode cX2_blows 1 = .ok (.istore_n 1, 1) := by decide +kernel
theorem dX2_blows_2 : decode cX2_blows 2 = .ok (.iconst 0, 1) := by decide +kernel
theorem dX2_blows_3 : decode cX2_blows 3 = .ok (.istore_n 2, 1) := by decide +kernel
theorem dX2_blows_4 : decode cX2_blows 4 = .ok (.iload_n 2, 1) := by decide +kernel
theorem dX2_blows_5 : decode cX2_blows 5 = .ok (.aload_n 0, 1) := by decide +kernel
theorem dX2_blows_6 : decode cX2_blows 6 = .ok (.getfield 15, 3) := by decide +kernel
theorem dX2_blows_9 : decode cX2_blows 9 = .ok (.if_icmp .ge 21, 3) := by decide +kernel
theorem dX2_blows_12 : decode cX2_blows 12 = .ok (.iload_n 1, 1) := by decide +kernel
theorem dX2_blows_13 : decode cX2_blows 13 = .ok (.aload_n 0, 1) := by decide +kernel
theorem dX2_blows_14 : decode cX2_blows 14 = .ok (.getfield 9, 3) := by decide +kernel
theorem dX2_blows_17 : decode cX2_blows 17 = .ok (.iload_n 2, 1) := by decide +kernel
theorem dX2_blows_18 : decode cX2_blows 18 = .ok (.iaload, 1) := by decide +kernel
theorem dX2_blows_19 : decode cX2_blows 19 = .ok (.invokestatic 55, 3) := by decide +kernel
theorem dX2_blows_22 : decode cX2_blows 22 = .ok (.iadd, 1) := by decide +kernel
theorem dX2_blows_23 : decode cX2_blows 23 = .ok (.istore_n 1, 1) := by decide +kernel
theorem dX2_blows_24 : decode cX2_blows 24 = .ok (.iinc 2 1, 3) := by decide +kernel
theorem dX2_blows_27 : decode cX2_blows 27 = .ok (.goto (-23), 3) := by decide +kernel
theorem dX2_blows_30 : decode cX2_blows 30 = .ok (.iload_n 1, 1) := by decide +kernel
theorem dX2_blows_31 : decode cX2_blows 31 = .ok (.ireturn, 1) := by decide +kernel
set_option maxRecDepth 20000 in
theorem ggX2_forces_X5_forces : GoodIn wsX2_forces wsX5_forces := goodIn_r _ [6, 7, 8, 5, 9, 10, 11, 12, 13, 14, 15, 16, 17, 18, 19, 20, 21, 22, 23, 24] (by decide +kernel) (by decide +kernel)
set_option maxRecDepth 20000 in
theorem gX2_forces_X5_forces : GoodIn wsX2_forces (va_wsS RX2 58 yX5_forces wsX5_forces) := goodIn_app (goodIn_of _ (by decide +kernel)) ggX2_forces_X5_forces
theorem dX2_forces_0 : decode cX2_forces 0 = .ok (.iconst 0, 1) := by decide +kernel
theorem dX2_forces_1 : decode cX2_forces 1 = .ok (.istore_n 1, 1) := by decide +kernel
theorem dX2_forces_2 : decode cX2_forces 2 = .ok (.iconst 0, 1) := by decide +kernel
theorem dX2_forces_3 : decode cX2_forces 3 = .ok (.istore_n 2, 1) := by decide +kernel
theorem dX2_forces_4 : decode cX2_forces 4 = .ok (.iload_n 2, 1) := by decide +kernel
theorem dX2_forces_5 : decode cX2_forces 5 = .ok (.aload_n 0, 1) := by decide +kernel
theorem dX2_forces_6 : decode cX2_forces 6 = .ok (.getfield 15, 3) := by decide +kernel
theorem dX2_forces_9 : decode cX2_forces 9 = .ok (.if_icmp .ge 21, 3) := by decide +kernel
theorem dX2_forces_12 : decode cX2_forces 12 = .ok (.iload_n 1, 1) := by decide +kernel
theorem dX2_forces_13 : decode cX2_forces 13 = .ok (.aload_n 0, 1) := by decide +kernel
theorem dX2_forces_14 : decode cX2_forces 14 = .ok (.getfield 9, 3) := by decide +kernel
theorem dX2_forces_17 : decode cX2_forces 17 = .ok (.iload_n 2, 1) := by decide +kernel
theorem dX2_forces_18 : decode cX2_forces 18 = .ok (.iaload, 1) := by decide +kernel
theorem dX2_forces_19 : decode cX2_forces 19 = .ok (.invokestatic 58, 3) := by decide +kernel
theorem dX2_forces_22 : decode cX2_forces 22 = .ok (.iadd, 1) := by decide +kernel
theorem dX2_forces_23 : decode cX2_forces 23 = .ok (.istore_n 1, 1) := by decide +kernel
theorem dX2_forces_24 : decode cX2_forces 24 = .ok (.iinc 2 1, 3) := by decide +kernel
theorem dX2_forces_27 : decode cX2_forces 27 = .ok (.goto (-23), 3) := by decide +kernel
theorem dX2_forces_30 : decode cX2_forces 30 = .ok (.iload_n 1, 1) := by decide +kernel
theorem dX2_forces_31 : decode cX2_forces 31 = .ok (.ireturn, 1) := by decide +kernel
set_option maxRecDepth 20000 in
theorem ggX2_longestRow_X5_isStroke : GoodIn wsX2_longestRow wsX5_isStroke := goodIn_r _ [10] (by decide +kernel) (by decide +kernel)
set_option maxRecDepth 20000 in
theorem gX2_longestRow_X5_isStroke : GoodIn wsX2_longestRow (va_wsS RX2 42 yX5_isStroke wsX5_isStroke) := goodIn_app (goodIn_of _ (by decide +kernel)) ggX2_longestRow_X5_isStroke
theorem dX2_longestRow_0 : decode cX2_longestRow 0 = .ok (.iconst 0, 1) := by decide +kernel
theorem dX2_longestRow_1 : decode cX2_longestRow 1 = .ok (.istore_n 1, 1) := by decide +kernel
theorem dX2_longestRow_2 : decode cX2_longestRow 2 = .ok (.iconst 0, 1) := by decide +kernel
theorem dX2_longestRow_3 : decode cX2_longestRow 3 = .ok (.istore_n 2, 1) := by decide +kernel
theorem dX2_longestRow_4 : decode cX2_longestRow 4 = .ok (.iconst 0, 1) := by decide +kernel
theorem dX2_longestRow_5 : decode cX2_longestRow 5 = .ok (.istore_n 3, 1) := by decide +kernel
theorem dX2_longestRow_6 : decode cX2_longestRow 6 = .ok (.iload_n 3, 1) := by decide +kernel
theorem dX2_longestRow_7 : decode cX2_longestRow 7 = .ok (.aload_n 0, 1) := by decide +kernel
theorem dX2_longestRow_8 : decode cX2_longestRow 8 = .ok (.getfield 15, 3) := by decide +kernel
theorem dX2_longestRow_11 : decode cX2_longestRow 11 = .ok (.if_icmp .ge 35, 3) := by decide +kernel
theorem dX2_longestRow_14 : decode cX2_longestRow 14 = .ok (.aload_n 0, 1) := by decide +kernel
theorem dX2_longestRow_15 : decode cX2_longestRow 15 = .ok (.getfield 9, 3) := by decide +kernel
theorem dX2_longestRow_18 : decode cX2_longestRow 18 = .ok (.iload_n 3, 1) := by decide +kernel
theorem dX2_longestRow_19 : decode cX2_longestRow 19 = .ok (.iaload, 1) := by decide +kernel
theorem dX2_longestRow_20 : decode cX2_longestRow 20 = .ok (.invokestatic 42, 3) := by decide +kernel
theorem dX2_longestRow_23 : decode cX2_longestRow 23 = .ok (.ifCond .eq 9, 3) := by decide +kernel
theorem dX2_longestRow_26 : decode cX2_longestRow 26 = .ok (.iload_n 2, 1) := by decide +kernel
theorem dX2_longestRow_27 : decode cX2_longestRow 27 = .ok (.iconst 1, 1) := by decide +kernel
theorem dX2_longestRow_28 : decode cX2_longestRow 28 = .ok (.iadd, 1) := by decide +kernel
theorem dX2_longestRow_29 : decode cX2_longestRow 29 = .ok (.goto 4, 3) := by decide +kernel
theorem dX2_longestRow_32 : decode cX2_longestRow 32 = .ok (.iconst 0, 1) := by decide +kernel
theorem dX2_longestRow_33 : decode cX2_longestRow 33 = .ok (.istore_n 2, 1) := by decide +kernel
theorem dX2_longestRow_34 : decode cX2_longestRow 34 = .ok (.iload_n 1, 1) := by decide +kernel
theorem dX2_longestRow_35 : decode cX2_longestRow 35 = .ok (.iload_n 2, 1) := by decide +kernel
theorem dX2_longestRow_36 : decode cX2_longestRow 36 = .ok (.invokestatic 61, 3) := by decide +kernel
theorem dX2_longestRow_39 : decode cX2_longestRow 39 = .ok (.istore_n 1, 1) := by decide +kernel
theorem dX2_longestRow_40 : decode cX2_longestRow 40 = .ok (.iinc 3 1, 3) := by decide +kernel
theorem dX2_longestRow_43 : decode cX2_longestRow 43 = .ok (.goto (-37), 3) := by decide +kernel
theorem dX2_longestRow_46 : decode cX2_longestRow 46 = .ok (.iload_n 1, 1) := by decide +kernel
theorem dX2_longestRow_47 : decode cX2_longestRow 47 = .ok (.ireturn, 1) := by decide +kernel
set_option maxRecDepth 20000 in
theorem ggX2_textLength_X5_textLength : GoodIn wsX2_textLength wsX5_textLength := goodIn_r _ [6, 7, 8, 5, 9, 10, 11, 12] (by decide +kernel) (by decide +kernel)
set_option maxRecDepth 20000 in
theorem gX2_textLength_X5_textLength : GoodIn wsX2_textLength (va_wsS RX2 67 yX5_textLength wsX5_textLength) := goodIn_app (goodIn_of _ (by decide +kernel)) ggX2_textLength_X5_textLength
theorem dX2_textLength_0 : decode cX2_textLength 0 = .ok (.iconst 0, 1) := by decide +kernel
theorem dX2_textLength_1 : decode cX2_textLength 1 = .ok (.istore_n 1, 1) := by decide +kernel
theorem dX2_textLength_2 : decode cX2_textLength 2 = .ok (.iconst 0, 1) := by decide +kernel
theorem dX2_textLength_3 : decode cX2_textLength 3 = .ok (.istore_n 2, 1) := by decide +kernel
theorem dX2_textLength_4 : decode cX2_textLength 4 = .ok (.iload_n 2, 1) := by decide +kernel
theorem dX2_textLength_5 : decode cX2_textLength 5 = .ok (.aload_n 0, 1) := by decide +kernel
theorem dX2_textLength_6 : decode cX2_textLength 6 = .ok (.getfield 15, 3) := by decide +kernel
theorem dX2_textLength_9 : decode cX2_textLength 9 = .ok (.if_icmp .ge 21, 3) := by decide +kernel
theorem dX2_textLength_12 : decode cX2_textLength 12 = .ok (.iload_n 1, 1) := by decide +kernel
theorem dX2_textLength_13 : decode cX2_textLength 13 = .ok (.aload_n 0, 1) := by decide +kernel
theorem dX2_textLength_14 : decode cX2_textLength 14 = .ok (.getfield 9, 3) := by decide +kernel
theorem dX2_textLength_17 : decode cX2_textLength 17 = .ok (.iload_n 2, 1) := by decide +kernel
theorem dX2_textLength_18 : decode cX2_textLength 18 = .ok (.iaload, 1) := by decide +kernel
theorem dX2_textLength_19 : decode cX2_textLength 19 = .ok (.invokestatic 67, 3) := by decide +kernel
theorem dX2_textLength_22 : decode cX2_textLength 22 = .ok (.iadd, 1) := by decide +kernel
theorem dX2_textLength_23 : decode cX2_textLength 23 = .ok (.istore_n 1, 1) := by decide +kernel
theorem dX2_textLength_24 : decode cX2_textLength 24 = .ok (.iinc 2 1, 3) := by decide +kernel
theorem dX2_textLength_27 : decode cX2_textLength 27 = .ok (.goto (-23), 3) := by decide +kernel
theorem dX2_textLength_30 : decode cX2_textLength 30 = .ok (.iload_n 1, 1) := by decide +kernel
theorem dX2_textLength_31 : decode cX2_textLength 31 = .ok (.ireturn, 1) := by decide +kernel
set_option maxRecDepth 20000 in
theorem ggX2_signAt_X5_textLength : GoodIn wsX2_signAt wsX5_textLength := goodIn_r _ [6, 7, 8, 5, 9, 10, 11, 12] (by decide +kernel) (by decide +kernel)
set_option maxRecDepth 20000 in
theorem gX2_signAt_X5_textLength : GoodIn wsX2_signAt (va_wsS RX2 67 yX5_textLength wsX5_textLength) := goodIn_app (goodIn_of _ (by decide +kernel)) ggX2_signAt_X5_textLength
set_option maxRecDepth 20000 in
theorem ggX2_signAt_X5_signAt : GoodIn wsX2_signAt wsX5_signAt := goodIn_r _ [15, 16, 17, 5, 18, 7, 8, 9, 10, 11, 12, 19, 20, 21, 22, 23, 24] (by decide +kernel) (by decide +kernel)
set_option maxRecDepth 20000 in
theorem gX2_signAt_X5_signAt : GoodIn wsX2_signAt (va_wsS RX2 70 yX5_signAt wsX5_signAt) := goodIn_app (goodIn_of _ (by decide +kernel)) ggX2_signAt_X5_signAt
theorem dX2_signAt_0 : decode cX2_signAt 0 = .ok (.iload_n 1, 1) := by decide +kernel
theorem dX2_signAt_1 : decode cX2_signAt 1 = .ok (.istore_n 2, 1) := by decide +kernel
theorem dX2_signAt_2 : decode cX2_signAt 2 = .ok (.iconst 0, 1) := by decide +kernel
theorem dX2_signAt_3 : decode cX2_signAt 3 = .ok (.istore_n 3, 1) := by decide +kernel
theorem dX2_signAt_4 : decode cX2_signAt 4 = .ok (.iload_n 3, 1) := by decide +kernel
theorem dX2_signAt_5 : decode cX2_signAt 5 = .ok (.aload_n 0, 1) := by decide +kernel
theorem dX2_signAt_6 : decode cX2_signAt 6 = .ok (.getfield 15, 3) := by decide +kernel
theorem dX2_signAt_9 : decode cX2_signAt 9 = .ok (.if_icmp .ge 42, 3) := by decide +kernel
theorem dX2_signAt_12 : decode cX2_signAt 12 = .ok (.aload_n 0, 1) := by decide +kernel
theorem dX2_signAt_13 : decode cX2_signAt 13 = .ok (.getfield 9, 3) := by decide +kernel
theorem dX2_signAt_16 : decode cX2_signAt 16 = .ok (.iload_n 3, 1) := by decide +kernel
theorem dX2_signAt_17 : decode cX2_signAt 17 = .ok (.iaload, 1) := by decide +kernel
theorem dX2_signAt_18 : decode cX2_signAt 18 = .ok (.invokestatic 67, 3) := by decide +kernel
theorem dX2_signAt_21 : decode cX2_signAt 21 = .ok (.istore 4, 2) := by decide +kernel
theorem dX2_signAt_23 : decode cX2_signAt 23 = .ok (.iload_n 2, 1) := by decide +kernel
theorem dX2_signAt_24 : decode cX2_signAt 24 = .ok (.iload 4, 2) := by decide +kernel
theorem dX2_signAt_26 : decode cX2_signAt 26 = .ok (.if_icmp .ge 14, 3) := by decide +kernel
theorem dX2_signAt_29 : decode cX2_signAt 29 = .ok (.aload_n 0, 1) := by decide +kernel
theorem dX2_signAt_30 : decode cX2_signAt 30 = .ok (.getfield 9, 3) := by decide +kernel
theorem dX2_signAt_33 : decode cX2_signAt 33 = .ok (.iload_n 3, 1) := by decide +kernel
theorem dX2_signAt_34 : decode cX2_signAt 34 = .ok (.iaload, 1) := by decide +kernel
theorem dX2_signAt_35 : decode cX2_signAt 35 = .ok (.iload_n 2, 1) := by decide +kernel
theorem dX2_signAt_36 : decode cX2_signAt 36 = .ok (.invokestatic 70, 3) := by decide +kernel
theorem dX2_signAt_39 : decode cX2_signAt 39 = .ok (.ireturn, 1) := by decide +kernel
theorem dX2_signAt_40 : decode cX2_signAt 40 = .ok (.iload_n 2, 1) := by decide +kernel
theorem dX2_signAt_41 : decode cX2_signAt 41 = .ok (.iload 4, 2) := by decide +kernel
theorem dX2_signAt_43 : decode cX2_signAt 43 = .ok (.isub, 1) := by decide +kernel
theorem dX2_signAt_44 : decode cX2_signAt 44 = .ok (.istore_n 2, 1) := by decide +kernel
theorem dX2_signAt_45 : decode cX2_signAt 45 = .ok (.iinc 3 1, 3) := by decide +kernel
theorem dX2_signAt_48 : decode cX2_signAt 48 = .ok (.goto (-44), 3) := by decide +kernel
theorem dX2_signAt_51 : decode cX2_signAt 51 = .ok (.bipush (-4), 2) := by decide +kernel
theorem dX2_signAt_53 : decode cX2_signAt 53 = .ok (.ireturn, 1) := by decide +kernel
