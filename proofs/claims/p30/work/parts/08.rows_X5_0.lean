theorem dX5_of_0 : decode cX5_of 0 = .ok (.iconst 1, 1) := by decide +kernel
theorem dX5_of_1 : decode cX5_of 1 = .ok (.iload_n 0, 1) := by decide +kernel
theorem dX5_of_2 : decode cX5_of 2 = .ok (.iconst 1, 1) := by decide +kernel
theorem dX5_of_3 : decode cX5_of 3 = .ok (.ishl, 1) := by decide +kernel
theorem dX5_of_4 : decode cX5_of 4 = .ok (.ior, 1) := by decide +kernel
theorem dX5_of_5 : decode cX5_of 5 = .ok (.iload_n 2, 1) := by decide +kernel
theorem dX5_of_6 : decode cX5_of 6 = .ok (.iconst 4, 1) := by decide +kernel
theorem dX5_of_7 : decode cX5_of 7 = .ok (.ishl, 1) := by decide +kernel
theorem dX5_of_8 : decode cX5_of 8 = .ok (.ior, 1) := by decide +kernel
theorem dX5_of_9 : decode cX5_of 9 = .ok (.istore_n 3, 1) := by decide +kernel
theorem dX5_of_10 : decode cX5_of 10 = .ok (.iload_n 1, 1) := by decide +kernel
theorem dX5_of_11 : decode cX5_of 11 = .ok (.ifCond .eq 10, 3) := by decide +kernel
theorem dX5_of_14 : decode cX5_of 14 = .ok (.iload_n 3, 1) := by decide +kernel
theorem dX5_of_15 : decode cX5_of 15 = .ok (.bipush 8, 2) := by decide +kernel
theorem dX5_of_17 : decode cX5_of 17 = .ok (.ior, 1) := by decide +kernel
theorem dX5_of_18 : decode cX5_of 18 = .ok (.goto 4, 3) := by decide +kernel
theorem dX5_of_21 : decode cX5_of 21 = .ok (.iload_n 3, 1) := by decide +kernel
theorem dX5_of_22 : decode cX5_of 22 = .ok (.ireturn, 1) := by decide +kernel
theorem dX5_isStroke_0 : decode cX5_isStroke 0 = .ok (.iload_n 0, 1) := by decide +kernel
theorem dX5_isStroke_1 : decode cX5_isStroke 1 = .ok (.ifCond .eq 7, 3) := by decide +kernel
theorem dX5_isStroke_4 : decode cX5_isStroke 4 = .ok (.iconst 1, 1) := by decide +kernel
theorem dX5_isStroke_5 : decode cX5_isStroke 5 = .ok (.goto 4, 3) := by decide +kernel
theorem dX5_isStroke_8 : decode cX5_isStroke 8 = .ok (.iconst 0, 1) := by decide +kernel
theorem dX5_isStroke_9 : decode cX5_isStroke 9 = .ok (.ireturn, 1) := by decide +kernel
theorem dX5_hand_0 : decode cX5_hand 0 = .ok (.iload_n 0, 1) := by decide +kernel
theorem dX5_hand_1 : decode cX5_hand 1 = .ok (.iconst 1, 1) := by decide +kernel
theorem dX5_hand_2 : decode cX5_hand 2 = .ok (.ishr, 1) := by decide +kernel
theorem dX5_hand_3 : decode cX5_hand 3 = .ok (.iconst 3, 1) := by decide +kernel
theorem dX5_hand_4 : decode cX5_hand 4 = .ok (.iand, 1) := by decide +kernel
theorem dX5_hand_5 : decode cX5_hand 5 = .ok (.ireturn, 1) := by decide +kernel
theorem dX5_isAccented_0 : decode cX5_isAccented 0 = .ok (.iload_n 0, 1) := by decide +kernel
theorem dX5_isAccented_1 : decode cX5_isAccented 1 = .ok (.bipush 8, 2) := by decide +kernel
theorem dX5_isAccented_3 : decode cX5_isAccented 3 = .ok (.iand, 1) := by decide +kernel
theorem dX5_isAccented_4 : decode cX5_isAccented 4 = .ok (.ifCond .eq 7, 3) := by decide +kernel
theorem dX5_isAccented_7 : decode cX5_isAccented 7 = .ok (.iconst 1, 1) := by decide +kernel
theorem dX5_isAccented_8 : decode cX5_isAccented 8 = .ok (.goto 4, 3) := by decide +kernel
theorem dX5_isAccented_11 : decode cX5_isAccented 11 = .ok (.iconst 0, 1) := by decide +kernel
theorem dX5_isAccented_12 : decode cX5_isAccented 12 = .ok (.ireturn, 1) := by decide +kernel
theorem dX5_ornament_0 : decode cX5_ornament 0 = .ok (.iload_n 0, 1) := by decide +kernel
theorem dX5_ornament_1 : decode cX5_ornament 1 = .ok (.iconst 4, 1) := by decide +kernel
theorem dX5_ornament_2 : decode cX5_ornament 2 = .ok (.ishr, 1) := by decide +kernel
theorem dX5_ornament_3 : decode cX5_ornament 3 = .ok (.iconst 3, 1) := by decide +kernel
theorem dX5_ornament_4 : decode cX5_ornament 4 = .ok (.iand, 1) := by decide +kernel
theorem dX5_ornament_5 : decode cX5_ornament 5 = .ok (.ireturn, 1) := by decide +kernel
set_option maxRecDepth 20000 in
theorem ggX5_withHand_X5_isAccented : GoodIn wsX5_withHand wsX5_isAccented := goodIn_r _ [4] (by decide +kernel) (by decide +kernel)
set_option maxRecDepth 20000 in
theorem gX5_withHand_X5_isAccented : GoodIn wsX5_withHand (va_wsS RX5 11 yX5_isAccented wsX5_isAccented) := goodIn_app (goodIn_of _ (by decide +kernel)) ggX5_withHand_X5_isAccented
set_option maxRecDepth 20000 in
theorem ggX5_withHand_X5_ornament : GoodIn wsX5_withHand wsX5_ornament := goodIn_r _ [7] (by decide +kernel) (by decide +kernel)
set_option maxRecDepth 20000 in
theorem gX5_withHand_X5_ornament : GoodIn wsX5_withHand (va_wsS RX5 15 yX5_ornament wsX5_ornament) := goodIn_app (goodIn_of _ (by decide +kernel)) ggX5_withHand_X5_ornament
set_option maxRecDepth 20000 in
theorem ggX5_withHand_X5_of : GoodIn wsX5_withHand wsX5_of := goodIn_r _ [10] (by decide +kernel) (by decide +kernel)
set_option maxRecDepth 20000 in
theorem gX5_withHand_X5_of : GoodIn wsX5_withHand (va_wsS RX5 19 yX5_of wsX5_of) := goodIn_app (goodIn_of _ (by decide +kernel)) ggX5_withHand_X5_of
theorem dX5_withHand_0 : decode cX5_withHand 0 = .ok (.iload_n 1, 1) := by decide +kernel
theorem dX5_withHand_1 : decode cX5_withHand 1 = .ok (.iload_n 0, 1) := by decide +kernel
theorem dX5_withHand_2 : decode cX5_withHand 2 = .ok (.invokestatic 11, 3) := by decide +kernel
theorem dX5_withHand_5 : decode cX5_withHand 5 = .ok (.iload_n 0, 1) := by decide +kernel
theorem dX5_withHand_6 : decode cX5_withHand 6 = .ok (.invokestatic 15, 3) := by decide +kernel
theorem dX5_withHand_9 : decode cX5_withHand 9 = .ok (.invokestatic 19, 3) := by decide +kernel
theorem dX5_withHand_12 : decode cX5_withHand 12 = .ok (.ireturn, 1) := by decide +kernel
set_option maxRecDepth 20000 in
theorem ggX5_withOrnament_X5_hand : GoodIn wsX5_withOrnament wsX5_hand := goodIn_r _ [4] (by decide +kernel) (by decide +kernel)
set_option maxRecDepth 20000 in
theorem gX5_withOrnament_X5_hand : GoodIn wsX5_withOrnament (va_wsS RX5 23 yX5_hand wsX5_hand) := goodIn_app (goodIn_of _ (by decide +kernel)) ggX5_withOrnament_X5_hand
set_option maxRecDepth 20000 in
theorem ggX5_withOrnament_X5_isAccented : GoodIn wsX5_withOrnament wsX5_isAccented := goodIn_r _ [7] (by decide +kernel) (by decide +kernel)
set_option maxRecDepth 20000 in
theorem gX5_withOrnament_X5_isAccented : GoodIn wsX5_withOrnament (va_wsS RX5 11 yX5_isAccented wsX5_isAccented) := goodIn_app (goodIn_of _ (by decide +kernel)) ggX5_withOrnament_X5_isAccented
set_option maxRecDepth 20000 in
theorem ggX5_withOrnament_X5_of : GoodIn wsX5_withOrnament wsX5_of := goodIn_r _ [10] (by decide +kernel) (by decide +kernel)
set_option maxRecDepth 20000 in
theorem gX5_withOrnament_X5_of : GoodIn wsX5_withOrnament (va_wsS RX5 19 yX5_of wsX5_of) := goodIn_app (goodIn_of _ (by decide +kernel)) ggX5_withOrnament_X5_of
theorem dX5_withOrnament_0 : decode cX5_withOrnament 0 = .ok (.iload_n 0, 1) := by decide +kernel
theorem dX5_withOrnament_1 : decode cX5_withOrnament 1 = .ok (.invokestatic 23, 3) := by decide +kernel
theorem dX5_withOrnament_4 : decode cX5_withOrnament 4 = .ok (.iload_n 0, 1) := by decide +kernel
theorem dX5_withOrnament_5 : decode cX5_withOrnament 5 = .ok (.invokestatic 11, 3) := by decide +kernel
theorem dX5_withOrnament_8 : decode cX5_withOrnament 8 = .ok (.iload_n 1, 1) := by decide +kernel
theorem dX5_withOrnament_9 : decode cX5_withOrnament 9 = .ok (.invokestatic 19, 3) := by decide +kernel
theorem dX5_withOrnament_12 : decode cX5_withOrnament 12 = .ok (.ireturn, 1) := by decide +kernel
set_option maxRecDepth 20000 in
theorem ggX5_blows_X5_isStroke : GoodIn wsX5_blows wsX5_isStroke := goodIn_r _ [4] (by decide +kernel) (by decide +kernel)
set_option maxRecDepth 20000 in
theorem gX5_blows_X5_isStroke : GoodIn wsX5_blows (va_wsS RX5 26 yX5_isStroke wsX5_isStroke) := goodIn_app (goodIn_of _ (by decide +kernel)) ggX5_blows_X5_isStroke
set_option maxRecDepth 20000 in
theorem ggX5_blows_X5_ornament : GoodIn wsX5_blows wsX5_ornament := goodIn_r _ [7] (by decide +kernel) (by decide +kernel)
set_option maxRecDepth 20000 in
theorem gX5_blows_X5_ornament : GoodIn wsX5_blows (va_wsS RX5 15 yX5_ornament wsX5_ornament) := goodIn_app (goodIn_of _ (by decide +kernel)) ggX5_blows_X5_ornament
set_option maxRecDepth 20000 in
theorem ggX5_blows_X5_blowsOf : GoodIn wsX5_blows wsX5_blowsOf := goodIn_r _ [10] (by decide +kernel) (by decide +kernel)
set_option maxRecDepth 20000 in
theorem gX5_blows_X5_blowsOf : GoodIn wsX5_blows (va_wsS RX5 29 yX5_blowsOf wsX5_blowsOf) := goodIn_app (goodIn_of _ (by decide +kernel)) ggX5_blows_X5_blowsOf
theorem dX5_blows_0 : decode cX5_blows 0 = .ok (.iload_n 0, 1) := by decide +kernel
theorem dX5_blows_1 : decode cX5_blows 1 = .ok (.invokestatic 26, 3) := by decide +kernel
theorem dX5_blows_4 : decode cX5_blows 4 = .ok (.ifCond .ne 5, 3) := by decide +kernel
theorem dX5_blows_7 : decode cX5_blows 7 = .ok (.iconst 0, 1) := by decide +kernel
theorem dX5_blows_8 : decode cX5_blows 8 = .ok (.ireturn, 1) := by decide +kernel
theorem dX5_blows_9 : decode cX5_blows 9 = .ok (.iload_n 0, 1) := by decide +kernel
theorem dX5_blows_10 : decode cX5_blows 10 = .ok (.invokestatic 15, 3) := by decide +kernel
theorem dX5_blows_13 : decode cX5_blows 13 = .ok (.invokestatic 29, 3) := by decide +kernel
theorem dX5_blows_16 : decode cX5_blows 16 = .ok (.ireturn, 1) := by decide +kernel
theorem dX5_blowsOf_0 : decode cX5_blowsOf 0 = .ok (.iload_n 0, 1) := by decide +kernel
theorem dX5_blowsOf_1 : decode cX5_blowsOf 1 = .ok (.ifCond .ne 5, 3) := by decide +kernel
theorem dX5_blowsOf_4 : decode cX5_blowsOf 4 = .ok (.iconst 1, 1) := by decide +kernel
theorem dX5_blowsOf_5 : decode cX5_blowsOf 5 = .ok (.ireturn, 1) := by decide +kernel
theorem dX5_blowsOf_6 : decode cX5_blowsOf 6 = .ok (.iload_n 0, 1) := by decide +kernel
theorem dX5_blowsOf_7 : decode cX5_blowsOf 7 = .ok (.iconst 2, 1) := by decide +kernel
theorem dX5_blowsOf_8 : decode cX5_blowsOf 8 = .ok (.if_icmp .ne 7, 3) := by decide +kernel
theorem dX5_blowsOf_11 : decode cX5_blowsOf 11 = .ok (.iconst 3, 1) := by decide +kernel
theorem dX5_blowsOf_12 : decode cX5_blowsOf 12 = .ok (.goto 4, 3) := by decide +kernel
theorem dX5_blowsOf_15 : decode cX5_blowsOf 15 = .ok (.iconst 2, 1) := by decide +kernel
theorem dX5_blowsOf_16 : decode cX5_blowsOf 16 = .ok (.ireturn, 1) := by decide +kernel
theorem dX5_offset_0 : decode cX5_offset 0 = .ok (.iload_n 1, 1) := by decide +kernel
theorem dX5_offset_1 : decode cX5_offset 1 = .ok (.ifCond .ne 5, 3) := by decide +kernel
theorem dX5_offset_4 : decode cX5_offset 4 = .ok (.iconst 0, 1) := by decide +kernel
theorem dX5_offset_5 : decode cX5_offset 5 = .ok (.ireturn, 1) := by decide +kernel
theorem dX5_offset_6 : decode cX5_offset 6 = .ok (.iload_n 0, 1) := by decide +kernel
theorem dX5_offset_7 : decode cX5_offset 7 = .ok (.iconst 3, 1) := by decide +kernel
theorem dX5_offset_8 : decode cX5_offset 8 = .ok (.if_icmp .ne 5, 3) := by decide +kernel
theorem dX5_offset_11 : decode cX5_offset 11 = .ok (.iconst 2, 1) := by decide +kernel
theorem dX5_offset_12 : decode cX5_offset 12 = .ok (.ireturn, 1) := by decide +kernel
theorem dX5_offset_13 : decode cX5_offset 13 = .ok (.iload_n 0, 1) := by decide +kernel
theorem dX5_offset_14 : decode cX5_offset 14 = .ok (.iconst 2, 1) := by decide +kernel
theorem dX5_offset_15 : decode cX5_offset 15 = .ok (.if_icmp .ne 13, 3) := by decide +kernel
theorem dX5_offset_18 : decode cX5_offset 18 = .ok (.iload_n 1, 1) := by decide +kernel
theorem dX5_offset_19 : decode cX5_offset 19 = .ok (.iconst 1, 1) := by decide +kernel
theorem dX5_offset_20 : decode cX5_offset 20 = .ok (.if_icmp .ne 8, 3) := by decide +kernel
theorem dX5_offset_23 : decode cX5_offset 23 = .ok (.bipush (-2), 2) := by decide +kernel
theorem dX5_offset_25 : decode cX5_offset 25 = .ok (.goto 4, 3) := by decide +kernel
theorem dX5_offset_28 : decode cX5_offset 28 = .ok (.iconst (-1), 1) := by decide +kernel
theorem dX5_offset_29 : decode cX5_offset 29 = .ok (.ireturn, 1) := by decide +kernel
theorem dX5_isOfOwnHand_0 : decode cX5_isOfOwnHand 0 = .ok (.iload_n 1, 1) := by decide +kernel
theorem dX5_isOfOwnHand_1 : decode cX5_isOfOwnHand 1 = .ok (.ifCond .eq 8, 3) := by decide +kernel
theorem dX5_isOfOwnHand_4 : decode cX5_isOfOwnHand 4 = .ok (.iload_n 0, 1) := by decide +kernel
theorem dX5_isOfOwnHand_5 : decode cX5_isOfOwnHand 5 = .ok (.iconst 3, 1) := by decide +kernel
theorem dX5_isOfOwnHand_6 : decode cX5_isOfOwnHand 6 = .ok (.if_icmp .ne 7, 3) := by decide +kernel
theorem dX5_isOfOwnHand_9 : decode cX5_isOfOwnHand 9 = .ok (.iconst 1, 1) := by decide +kernel
theorem dX5_isOfOwnHand_10 : decode cX5_isOfOwnHand 10 = .ok (.goto 4, 3) := by decide +kernel
theorem dX5_isOfOwnHand_13 : decode cX5_isOfOwnHand 13 = .ok (.iconst 0, 1) := by decide +kernel
theorem dX5_isOfOwnHand_14 : decode cX5_isOfOwnHand 14 = .ok (.ireturn, 1) := by decide +kernel
set_option maxRecDepth 20000 in
theorem ggX5_force_X5_isAccented : GoodIn wsX5_force wsX5_isAccented := goodIn_r _ [4] (by decide +kernel) (by decide +kernel)
set_option maxRecDepth 20000 in
theorem gX5_force_X5_isAccented : GoodIn wsX5_force (va_wsS RX5 11 yX5_isAccented wsX5_isAccented) := goodIn_app (goodIn_of _ (by decide +kernel)) ggX5_force_X5_isAccented
theorem dX5_force_0 : decode cX5_force 0 = .ok (.iload_n 1, 1) := by decide +kernel
theorem dX5_force_1 : decode cX5_force 1 = .ok (.ifCond .le 5, 3) := by decide +kernel
theorem dX5_force_4 : decode cX5_force 4 = .ok (.iconst 1, 1) := by decide +kernel
theorem dX5_force_5 : decode cX5_force 5 = .ok (.ireturn, 1) := by decide +kernel
theorem dX5_force_6 : decode cX5_force 6 = .ok (.iload_n 0, 1) := by decide +kernel
theorem dX5_force_7 : decode cX5_force 7 = .ok (.invokestatic 11, 3) := by decide +kernel
theorem dX5_force_10 : decode cX5_force 10 = .ok (.ifCond .eq 7, 3) := by decide +kernel
theorem dX5_force_13 : decode cX5_force 13 = .ok (.iconst 3, 1) := by decide +kernel
theorem dX5_force_14 : decode cX5_force 14 = .ok (.goto 4, 3) := by decide +kernel
theorem dX5_force_17 : decode cX5_force 17 = .ok (.iconst 2, 1) := by decide +kernel
theorem dX5_force_18 : decode cX5_force 18 = .ok (.ireturn, 1) := by decide +kernel
set_option maxRecDepth 20000 in
theorem ggX5_forces_X5_blows : GoodIn wsX5_forces wsX5_blows := goodIn_r _ [4, 5, 6, 3, 7, 8, 9, 10, 11, 12, 13] (by decide +kernel) (by decide +kernel)
set_option maxRecDepth 20000 in
theorem gX5_forces_X5_blows : GoodIn wsX5_forces (va_wsS RX5 32 yX5_blows wsX5_blows) := goodIn_app (goodIn_of _ (by decide +kernel)) ggX5_forces_X5_blows
set_option maxRecDepth 20000 in
theorem ggX5_forces_X5_force : GoodIn wsX5_forces wsX5_force := goodIn_r _ [16, 17, 18, 3, 19] (by decide +kernel) (by decide +kernel)
set_option maxRecDepth 20000 in
theorem gX5_forces_X5_force : GoodIn wsX5_forces (va_wsS RX5 35 yX5_force wsX5_force) := goodIn_app (goodIn_of _ (by decide +kernel)) ggX5_forces_X5_force
theorem dX5_forces_0 : decode cX5_forces 0 = .ok (.iconst 0, 1) := by decide +kernel
theorem dX5_forces_1 : decode cX5_forces 1 = .ok (.istore_n 1, 1) := by decide +kernel
theorem dX5_forces_2 : decode cX5_forces 2 = .ok (.iconst 0, 1) := by decide +kernel
theorem dX5_forces_3 : decode cX5_forces 3 = .ok (.istore_n 2, 1) := by decide +kernel
theorem dX5_forces_4 : decode cX5_forces 4 = .ok (.iload_n 2, 1) := by decide +kernel
theorem dX5_forces_5 : decode cX5_forces 5 = .ok (.iload_n 0, 1) := by decide +kernel
theorem dX5_forces_6 : decode cX5_forces 6 = .ok (.invokestatic 32, 3) := by decide +kernel
theorem dX5_forces_9 : decode cX5_forces 9 = .ok (.if_icmp .ge 17, 3) := by decide +kernel
theorem dX5_forces_12 : decode cX5_forces 12 = .ok (.iload_n 1, 1) := by decide +kernel
theorem dX5_forces_13 : decode cX5_forces 13 = .ok (.iload_n 0, 1) := by decide +kernel
theorem dX5_forces_14 : decode cX5_forces 14 = .ok (.iload_n 2, 1) := by decide +kernel
theorem dX5_forces_15 : decode cX5_forces 15 = .ok (.invokestatic 35, 3) := by decide +kernel
theorem dX5_forces_18 : decode cX5_forces 18 = .ok (.iadd, 1) := by decide +kernel
theorem dX5_forces_19 : decode cX5_forces 19 = .ok (.istore_n 1, 1) := by decide +kernel
theorem dX5_forces_20 : decode cX5_forces 20 = .ok (.iinc 2 1, 3) := by decide +kernel
theorem dX5_forces_23 : decode cX5_forces 23 = .ok (.goto (-19), 3) := by decide +kernel
theorem dX5_forces_26 : decode cX5_forces 26 = .ok (.iload_n 1, 1) := by decide +kernel
theorem dX5_forces_27 : decode cX5_forces 27 = .ok (.ireturn, 1) := by decide +kernel
set_option maxRecDepth 20000 in
theorem ggX5_forcesAt_X5_blows : GoodIn wsX5_forcesAt wsX5_blows := goodIn_r _ [4, 5, 6, 3, 7, 8, 9, 10, 11, 12, 13] (by decide +kernel) (by decide +kernel)
set_option maxRecDepth 20000 in
theorem gX5_forcesAt_X5_blows : GoodIn wsX5_forcesAt (va_wsS RX5 32 yX5_blows wsX5_blows) := goodIn_app (goodIn_of _ (by decide +kernel)) ggX5_forcesAt_X5_blows
set_option maxRecDepth 20000 in
theorem ggX5_forcesAt_X5_ornament : GoodIn wsX5_forcesAt wsX5_ornament := goodIn_r _ [10] (by decide +kernel) (by decide +kernel)
set_option maxRecDepth 20000 in
theorem gX5_forcesAt_X5_ornament : GoodIn wsX5_forcesAt (va_wsS RX5 15 yX5_ornament wsX5_ornament) := goodIn_app (goodIn_of _ (by decide +kernel)) ggX5_forcesAt_X5_ornament
set_option maxRecDepth 20000 in
theorem ggX5_forcesAt_X5_offset : GoodIn wsX5_forcesAt wsX5_offset := goodIn_r _ [16] (by decide +kernel) (by decide +kernel)
set_option maxRecDepth 20000 in
theorem gX5_forcesAt_X5_offset : GoodIn wsX5_forcesAt (va_wsS RX5 39 yX5_offset wsX5_offset) := goodIn_app (goodIn_of _ (by decide +kernel)) ggX5_forcesAt_X5_offset
set_option maxRecDepth 20000 in
theorem ggX5_forcesAt_X5_force : GoodIn wsX5_forcesAt wsX5_force := goodIn_r _ [19, 20, 21, 3, 22] (by decide +kernel) (by decide +kernel)
set_option maxRecDepth 20000 in
theorem gX5_forcesAt_X5_force : GoodIn wsX5_forcesAt (va_wsS RX5 35 yX5_force wsX5_force) := goodIn_app (goodIn_of _ (by decide +kernel)) ggX5_forcesAt_X5_force
theorem dX5_forcesAt_0 : decode cX5_forcesAt 0 = .ok (.iconst 0, 1) := by decide +kernel
theorem dX5_forcesAt_1 : decode cX5_forcesAt 1 = .ok (.istore_n 2, 1) := by decide +kernel
theorem dX5_forcesAt_2 : decode cX5_forcesAt 2 = .ok (.iconst 0, 1) := by decide +kernel
theorem dX5_forcesAt_3 : decode cX5_forcesAt 3 = .ok (.istore_n 3, 1) := by decide +kernel
theorem dX5_forcesAt_4 : decode cX5_forcesAt 4 = .ok (.iload_n 3, 1) := by decide +kernel
theorem dX5_forcesAt_5 : decode cX5_forcesAt 5 = .ok (.iload_n 0, 1) := by decide +kernel
theorem dX5_forcesAt_6 : decode cX5_forcesAt 6 = .ok (.invokestatic 32, 3) := by decide +kernel
theorem dX5_forcesAt_9 : decode cX5_forcesAt 9 = .ok (.if_icmp .ge 29, 3) := by decide +kernel
theorem dX5_forcesAt_12 : decode cX5_forcesAt 12 = .ok (.iload_n 0, 1) := by decide +kernel
theorem dX5_forcesAt_13 : decode cX5_forcesAt 13 = .ok (.invokestatic 15, 3) := by decide +kernel
theorem dX5_forcesAt_16 : decode cX5_forcesAt 16 = .ok (.iload_n 3, 1) := by decide +kernel
theorem dX5_forcesAt_17 : decode cX5_forcesAt 17 = .ok (.invokestatic 39, 3) := by decide +kernel
theorem dX5_forcesAt_20 : decode cX5_forcesAt 20 = .ok (.iload_n 1, 1) := by decide +kernel
theorem dX5_forcesAt_21 : decode cX5_forcesAt 21 = .ok (.if_icmp .ne 11, 3) := by decide +kernel
theorem dX5_forcesAt_24 : decode cX5_forcesAt 24 = .ok (.iload_n 2, 1) := by decide +kernel
theorem dX5_forcesAt_25 : decode cX5_forcesAt 25 = .ok (.iload_n 0, 1) := by decide +kernel
theorem dX5_forcesAt_26 : decode cX5_forcesAt 26 = .ok (.iload_n 3, 1) := by decide +kernel
theorem dX5_forcesAt_27 : decode cX5_forcesAt 27 = .ok (.invokestatic 35, 3) := by decide +kernel
theorem dX5_forcesAt_30 : decode cX5_forcesAt 30 = .ok (.iadd, 1) := by decide +kernel
theorem dX5_forcesAt_31 : decode cX5_forcesAt 31 = .ok (.istore_n 2, 1) := by decide +kernel
theorem dX5_forcesAt_32 : decode cX5_forcesAt 32 = .ok (.iinc 3 1, 3) := by decide +kernel
theorem dX5_forcesAt_35 : decode cX5_forcesAt 35 = .ok (.goto (-31), 3) := by decide +kernel
theorem dX5_forcesAt_38 : decode cX5_forcesAt 38 = .ok (.iload_n 2, 1) := by decide +kernel
theorem dX5_forcesAt_39 : decode cX5_forcesAt 39 = .ok (.ireturn, 1) := by decide +kernel
set_option maxRecDepth 20000 in
theorem ggX5_forcesOfRight_X5_blows : GoodIn wsX5_forcesOfRight wsX5_blows := goodIn_r _ [4, 5, 6, 3, 7, 8, 9, 10, 11, 12, 13] (by decide +kernel) (by decide +kernel)
set_option maxRecDepth 20000 in
theorem gX5_forcesOfRight_X5_blows : GoodIn wsX5_forcesOfRight (va_wsS RX5 32 yX5_blows wsX5_blows) := goodIn_app (goodIn_of _ (by decide +kernel)) ggX5_forcesOfRight_X5_blows
set_option maxRecDepth 20000 in
theorem ggX5_forcesOfRight_X5_ornament : GoodIn wsX5_forcesOfRight wsX5_ornament := goodIn_r _ [10] (by decide +kernel) (by decide +kernel)
set_option maxRecDepth 20000 in
theorem gX5_forcesOfRight_X5_ornament : GoodIn wsX5_forcesOfRight (va_wsS RX5 15 yX5_ornament wsX5_ornament) := goodIn_app (goodIn_of _ (by decide +kernel)) ggX5_forcesOfRight_X5_ornament
set_option maxRecDepth 20000 in
theorem ggX5_forcesOfRight_X5_isOfOwnHand : GoodIn wsX5_forcesOfRight wsX5_isOfOwnHand := goodIn_r _ [16] (by decide +kernel) (by decide +kernel)
set_option maxRecDepth 20000 in
theorem gX5_forcesOfRight_X5_isOfOwnHand : GoodIn wsX5_forcesOfRight (va_wsS RX5 42 yX5_isOfOwnHand wsX5_isOfOwnHand) := goodIn_app (goodIn_of _ (by decide +kernel)) ggX5_forcesOfRight_X5_isOfOwnHand
set_option maxRecDepth 20000 in
theorem ggX5_forcesOfRight_X6_otherHand : GoodIn wsX5_forcesOfRight wsX6_otherHand := goodIn_r _ [19] (by decide +kernel) (by decide +kernel)
set_option maxRecDepth 20000 in
theorem gX5_forcesOfRight_X6_otherHand_n46 : GoodIn wsX5_forcesOfRight (wsX6_otherHand) := ggX5_forcesOfRight_X6_otherHand
set_option maxRecDepth 20000 in
theorem ggX5_forcesOfRight_X5_force : GoodIn wsX5_forcesOfRight wsX5_force := goodIn_r _ [22, 23, 24, 3, 25] (by decide +kernel) (by decide +kernel)
set_option maxRecDepth 20000 in
theorem gX5_forcesOfRight_X5_force : GoodIn wsX5_forcesOfRight (va_wsS RX5 35 yX5_force wsX5_force) := goodIn_app (goodIn_of _ (by decide +kernel)) ggX5_forcesOfRight_X5_force
theorem dX5_forcesOfRight_0 : decode cX5_forcesOfRight 0 = .ok (.iconst 0, 1) := by decide +kernel
theorem dX5_forcesOfRight_1 : decode cX5_forcesOfRight 1 = .ok (.istore_n 2, 1) := by decide +kernel
theorem dX5_forcesOfRight_2 : decode cX5_forcesOfRight 2 = .ok (.iconst 0, 1) := by decide +kernel
theorem dX5_forcesOfRight_3 : decode cX5_forcesOfRight 3 = .ok (.istore_n 3, 1) := by decide +kernel
theorem dX5_forcesOfRight_4 : decode cX5_forcesOfRight 4 = .ok (.iload_n 3, 1) := by decide +kernel
theorem dX5_forcesOfRight_5 : decode cX5_forcesOfRight 5 = .ok (.iload_n 0, 1) := by decide +kernel
theorem dX5_forcesOfRight_6 : decode cX5_forcesOfRight 6 = .ok (.invokestatic 32, 3) := by decide +kernel
theorem dX5_forcesOfRight_9 : decode cX5_forcesOfRight 9 = .ok (.if_icmp .ge 43, 3) := by decide +kernel
theorem dX5_forcesOfRight_12 : decode cX5_forcesOfRight 12 = .ok (.iload_n 0, 1) := by decide +kernel
theorem dX5_forcesOfRight_13 : decode cX5_forcesOfRight 13 = .ok (.invokestatic 15, 3) := by decide +kernel
theorem dX5_forcesOfRight_16 : decode cX5_forcesOfRight 16 = .ok (.iload_n 3, 1) := by decide +kernel
theorem dX5_forcesOfRight_17 : decode cX5_forcesOfRight 17 = .ok (.invokestatic 42, 3) := by decide +kernel
theorem dX5_forcesOfRight_20 : decode cX5_forcesOfRight 20 = .ok (.ifCond .eq 7, 3) := by decide +kernel
theorem dX5_forcesOfRight_23 : decode cX5_forcesOfRight 23 = .ok (.iload_n 1, 1) := by decide +kernel
theorem dX5_forcesOfRight_24 : decode cX5_forcesOfRight 24 = .ok (.goto 7, 3) := by decide +kernel
theorem dX5_forcesOfRight_27 : decode cX5_forcesOfRight 27 = .ok (.iload_n 1, 1) := by decide +kernel
theorem dX5_forcesOfRight_28 : decode cX5_forcesOfRight 28 = .ok (.invokestatic 46, 3) := by decide +kernel
theorem dX5_forcesOfRight_31 : decode cX5_forcesOfRight 31 = .ok (.istore 4, 2) := by decide +kernel
theorem dX5_forcesOfRight_33 : decode cX5_forcesOfRight 33 = .ok (.iload 4, 2) := by decide +kernel
theorem dX5_forcesOfRight_35 : decode cX5_forcesOfRight 35 = .ok (.ifCond .ne 11, 3) := by decide +kernel
theorem dX5_forcesOfRight_38 : decode cX5_forcesOfRight 38 = .ok (.iload_n 2, 1) := by decide +kernel
theorem dX5_forcesOfRight_39 : decode cX5_forcesOfRight 39 = .ok (.iload_n 0, 1) := by decide +kernel
theorem dX5_forcesOfRight_40 : decode cX5_forcesOfRight 40 = .ok (.iload_n 3, 1) := by decide +kernel
theorem dX5_forcesOfRight_41 : decode cX5_forcesOfRight 41 = .ok (.invokestatic 35, 3) := by decide +kernel
theorem dX5_forcesOfRight_44 : decode cX5_forcesOfRight 44 = .ok (.iadd, 1) := by decide +kernel
theorem dX5_forcesOfRight_45 : decode cX5_forcesOfRight 45 = .ok (.istore_n 2, 1) := by decide +kernel
theorem dX5_forcesOfRight_46 : decode cX5_forcesOfRight 46 = .ok (.iinc 3 1, 3) := by decide +kernel
theorem dX5_forcesOfRight_49 : decode cX5_forcesOfRight 49 = .ok (.goto (-45), 3) := by decide +kernel
theorem dX5_forcesOfRight_52 : decode cX5_forcesOfRight 52 = .ok (.iload_n 2, 1) := by decide +kernel
theorem dX5_forcesOfRight_53 : decode cX5_forcesOfRight 53 = .ok (.ireturn, 1) := by decide +kernel
set_option maxRecDepth 20000 in
theorem ggX5_textLength_X5_isAccented : GoodIn wsX5_textLength wsX5_isAccented := goodIn_r _ [4] (by decide +kernel) (by decide +kernel)
set_option maxRecDepth 20000 in
theorem gX5_textLength_X5_isAccented : GoodIn wsX5_textLength (va_wsS RX5 11 yX5_isAccented wsX5_isAccented) := goodIn_app (goodIn_of _ (by decide +kernel)) ggX5_textLength_X5_isAccented
set_option maxRecDepth 20000 in
theorem ggX5_textLength_X5_ornament : GoodIn wsX5_textLength wsX5_ornament := goodIn_r _ [7] (by decide +kernel) (by decide +kernel)
set_option maxRecDepth 20000 in
theorem gX5_textLength_X5_ornament : GoodIn wsX5_textLength (va_wsS RX5 15 yX5_ornament wsX5_ornament) := goodIn_app (goodIn_of _ (by decide +kernel)) ggX5_textLength_X5_ornament
theorem dX5_textLength_0 : decode cX5_textLength 0 = .ok (.iconst 1, 1) := by decide +kernel
theorem dX5_textLength_1 : decode cX5_textLength 1 = .ok (.iload_n 0, 1) := by decide +kernel
theorem dX5_textLength_2 : decode cX5_textLength 2 = .ok (.invokestatic 11, 3) := by decide +kernel
theorem dX5_textLength_5 : decode cX5_textLength 5 = .ok (.ifCond .eq 7, 3) := by decide +kernel
theorem dX5_textLength_8 : decode cX5_textLength 8 = .ok (.iconst 1, 1) := by decide +kernel
theorem dX5_textLength_9 : decode cX5_textLength 9 = .ok (.goto 4, 3) := by decide +kernel
theorem dX5_textLength_12 : decode cX5_textLength 12 = .ok (.iconst 0, 1) := by decide +kernel
theorem dX5_textLength_13 : decode cX5_textLength 13 = .ok (.iadd, 1) := by decide +kernel
theorem dX5_textLength_14 : decode cX5_textLength 14 = .ok (.iload_n 0, 1) := by decide +kernel
theorem dX5_textLength_15 : decode cX5_textLength 15 = .ok (.invokestatic 15, 3) := by decide +kernel
theorem dX5_textLength_18 : decode cX5_textLength 18 = .ok (.ifCond .ne 7, 3) := by decide +kernel
theorem dX5_textLength_21 : decode cX5_textLength 21 = .ok (.iconst 0, 1) := by decide +kernel
theorem dX5_textLength_22 : decode cX5_textLength 22 = .ok (.goto 4, 3) := by decide +kernel
theorem dX5_textLength_25 : decode cX5_textLength 25 = .ok (.iconst 1, 1) := by decide +kernel
theorem dX5_textLength_26 : decode cX5_textLength 26 = .ok (.iadd, 1) := by decide +kernel
theorem dX5_textLength_27 : decode cX5_textLength 27 = .ok (.ireturn, 1) := by decide +kernel
set_option maxRecDepth 20000 in
theorem ggX5_signAt_X5_isStroke : GoodIn wsX5_signAt wsX5_isStroke := goodIn_r _ [4] (by decide +kernel) (by decide +kernel)
set_option maxRecDepth 20000 in
theorem gX5_signAt_X5_isStroke : GoodIn wsX5_signAt (va_wsS RX5 26 yX5_isStroke wsX5_isStroke) := goodIn_app (goodIn_of _ (by decide +kernel)) ggX5_signAt_X5_isStroke
set_option maxRecDepth 20000 in
theorem ggX5_signAt_X5_isAccented : GoodIn wsX5_signAt wsX5_isAccented := goodIn_r _ [7] (by decide +kernel) (by decide +kernel)
set_option maxRecDepth 20000 in
theorem gX5_signAt_X5_isAccented : GoodIn wsX5_signAt (va_wsS RX5 11 yX5_isAccented wsX5_isAccented) := goodIn_app (goodIn_of _ (by decide +kernel)) ggX5_signAt_X5_isAccented
set_option maxRecDepth 20000 in
theorem ggX5_signAt_X5_ornament : GoodIn wsX5_signAt wsX5_ornament := goodIn_r _ [10] (by decide +kernel) (by decide +kernel)
set_option maxRecDepth 20000 in
theorem gX5_signAt_X5_ornament : GoodIn wsX5_signAt (va_wsS RX5 15 yX5_ornament wsX5_ornament) := goodIn_app (goodIn_of _ (by decide +kernel)) ggX5_signAt_X5_ornament
set_option maxRecDepth 20000 in
theorem ggX5_signAt_X5_hand : GoodIn wsX5_signAt wsX5_hand := goodIn_r _ [13] (by decide +kernel) (by decide +kernel)
set_option maxRecDepth 20000 in
theorem gX5_signAt_X5_hand : GoodIn wsX5_signAt (va_wsS RX5 23 yX5_hand wsX5_hand) := goodIn_app (goodIn_of _ (by decide +kernel)) ggX5_signAt_X5_hand
set_option maxRecDepth 20000 in
theorem ggX5_signAt_X5_handSign : GoodIn wsX5_signAt wsX5_handSign := goodIn_r _ [16] (by decide +kernel) (by decide +kernel)
set_option maxRecDepth 20000 in
theorem gX5_signAt_X5_handSign : GoodIn wsX5_signAt (va_wsS RX5 49 yX5_handSign wsX5_handSign) := goodIn_app (goodIn_of _ (by decide +kernel)) ggX5_signAt_X5_handSign
theorem dX5_signAt_0 : decode cX5_signAt 0 = .ok (.iload_n 0, 1) := by decide +kernel
theorem dX5_signAt_1 : decode cX5_signAt 1 = .ok (.invokestatic 26, 3) := by decide +kernel
theorem dX5_signAt_4 : decode cX5_signAt 4 = .ok (.ifCond .ne 6, 3) := by decide +kernel
theorem dX5_signAt_7 : decode cX5_signAt 7 = .ok (.bipush 46, 2) := by decide +kernel
theorem dX5_signAt_9 : decode cX5_signAt 9 = .ok (.ireturn, 1) := by decide +kernel
theorem dX5_signAt_10 : decode cX5_signAt 10 = .ok (.iload_n 1, 1) := by decide +kernel
theorem dX5_signAt_11 : decode cX5_signAt 11 = .ok (.istore_n 2, 1) := by decide +kernel
theorem dX5_signAt_12 : decode cX5_signAt 12 = .ok (.iload_n 0, 1) := by decide +kernel
theorem dX5_signAt_13 : decode cX5_signAt 13 = .ok (.invokestatic 11, 3) := by decide +kernel
theorem dX5_signAt_16 : decode cX5_signAt 16 = .ok (.ifCond .eq 13, 3) := by decide +kernel
theorem dX5_signAt_19 : decode cX5_signAt 19 = .ok (.iload_n 2, 1) := by decide +kernel
theorem dX5_signAt_20 : decode cX5_signAt 20 = .ok (.ifCond .ne 6, 3) := by decide +kernel
theorem dX5_signAt_23 : decode cX5_signAt 23 = .ok (.bipush 62, 2) := by decide +kernel
theorem dX5_signAt_25 : decode cX5_signAt 25 = .ok (.ireturn, 1) := by decide +kernel
theorem dX5_signAt_26 : decode cX5_signAt 26 = .ok (.iinc 2 (-1), 3) := by decide +kernel
theorem dX5_signAt_29 : decode cX5_signAt 29 = .ok (.iload_n 0, 1) := by decide +kernel
theorem dX5_signAt_30 : decode cX5_signAt 30 = .ok (.invokestatic 15, 3) := by decide +kernel
theorem dX5_signAt_33 : decode cX5_signAt 33 = .ok (.istore_n 3, 1) := by decide +kernel
theorem dX5_signAt_34 : decode cX5_signAt 34 = .ok (.iload_n 3, 1) := by decide +kernel
theorem dX5_signAt_35 : decode cX5_signAt 35 = .ok (.iconst 1, 1) := by decide +kernel
theorem dX5_signAt_36 : decode cX5_signAt 36 = .ok (.if_icmp .eq 8, 3) := by decide +kernel
theorem dX5_signAt_39 : decode cX5_signAt 39 = .ok (.iload_n 3, 1) := by decide +kernel
theorem dX5_signAt_40 : decode cX5_signAt 40 = .ok (.iconst 2, 1) := by decide +kernel
theorem dX5_signAt_41 : decode cX5_signAt 41 = .ok (.if_icmp .ne 23, 3) := by decide +kernel
theorem dX5_signAt_44 : decode cX5_signAt 44 = .ok (.iload_n 2, 1) := by decide +kernel
theorem dX5_signAt_45 : decode cX5_signAt 45 = .ok (.ifCond .ne 16, 3) := by decide +kernel
theorem dX5_signAt_48 : decode cX5_signAt 48 = .ok (.iload_n 3, 1) := by decide +kernel
theorem dX5_signAt_49 : decode cX5_signAt 49 = .ok (.iconst 1, 1) := by decide +kernel
theorem dX5_signAt_50 : decode cX5_signAt 50 = .ok (.if_icmp .ne 8, 3) := by decide +kernel
theorem dX5_signAt_53 : decode cX5_signAt 53 = .ok (.bipush 102, 2) := by decide +kernel
theorem dX5_signAt_55 : decode cX5_signAt 55 = .ok (.goto 5, 3) := by decide +kernel
theorem dX5_signAt_58 : decode cX5_signAt 58 = .ok (.bipush 100, 2) := by decide +kernel
theorem dX5_signAt_60 : decode cX5_signAt 60 = .ok (.ireturn, 1) := by decide +kernel
theorem dX5_signAt_61 : decode cX5_signAt 61 = .ok (.iinc 2 (-1), 3) := by decide +kernel
theorem dX5_signAt_64 : decode cX5_signAt 64 = .ok (.iload_n 2, 1) := by decide +kernel
theorem dX5_signAt_65 : decode cX5_signAt 65 = .ok (.ifCond .ne 13, 3) := by decide +kernel
theorem dX5_signAt_68 : decode cX5_signAt 68 = .ok (.iload_n 0, 1) := by decide +kernel
theorem dX5_signAt_69 : decode cX5_signAt 69 = .ok (.invokestatic 23, 3) := by decide +kernel
theorem dX5_signAt_72 : decode cX5_signAt 72 = .ok (.invokestatic 49, 3) := by decide +kernel
theorem dX5_signAt_75 : decode cX5_signAt 75 = .ok (.goto 5, 3) := by decide +kernel
theorem dX5_signAt_78 : decode cX5_signAt 78 = .ok (.bipush 42, 2) := by decide +kernel
theorem dX5_signAt_80 : decode cX5_signAt 80 = .ok (.ireturn, 1) := by decide +kernel
theorem dX5_handSign_0 : decode cX5_handSign 0 = .ok (.iload_n 0, 1) := by decide +kernel
theorem dX5_handSign_1 : decode cX5_handSign 1 = .ok (.iconst 2, 1) := by decide +kernel
theorem dX5_handSign_2 : decode cX5_handSign 2 = .ok (.if_icmp .ne 6, 3) := by decide +kernel
theorem dX5_handSign_5 : decode cX5_handSign 5 = .ok (.bipush 120, 2) := by decide +kernel
theorem dX5_handSign_7 : decode cX5_handSign 7 = .ok (.ireturn, 1) := by decide +kernel
theorem dX5_handSign_8 : decode cX5_handSign 8 = .ok (.iload_n 0, 1) := by decide +kernel
theorem dX5_handSign_9 : decode cX5_handSign 9 = .ok (.ifCond .ne 8, 3) := by decide +kernel
theorem dX5_handSign_12 : decode cX5_handSign 12 = .ok (.bipush 82, 2) := by decide +kernel
theorem dX5_handSign_14 : decode cX5_handSign 14 = .ok (.goto 5, 3) := by decide +kernel
theorem dX5_handSign_17 : decode cX5_handSign 17 = .ok (.bipush 76, 2) := by decide +kernel
theorem dX5_handSign_19 : decode cX5_handSign 19 = .ok (.ireturn, 1) := by decide +kernel
