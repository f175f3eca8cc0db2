theorem dX1_init_0 : decode cX1_init 0 = .ok (.aload_n 0, 1) := by decide +kernel
theorem dX1_init_1 : decode cX1_init 1 = .ok (.invokespecial 3, 3) := by decide +kernel
theorem dX1_init_4 : decode cX1_init 4 = .ok (.aload_n 0, 1) := by decide +kernel
theorem dX1_init_5 : decode cX1_init 5 = .ok (.bipush 60, 2) := by decide +kernel
theorem dX1_init_7 : decode cX1_init 7 = .ok (.newarray .int, 2) := by decide +kernel
theorem dX1_init_9 : decode cX1_init 9 = .ok (.putfield 9, 3) := by decide +kernel
theorem dX1_init_12 : decode cX1_init 12 = .ok (.aload_n 0, 1) := by decide +kernel
theorem dX1_init_13 : decode cX1_init 13 = .ok (.iconst 0, 1) := by decide +kernel
theorem dX1_init_14 : decode cX1_init 14 = .ok (.putfield 15, 3) := by decide +kernel
theorem dX1_init_17 : decode cX1_init 17 = .ok (.return_, 1) := by decide +kernel
theorem dX1_add_0 : decode cX1_add 0 = .ok (.aload_n 0, 1) := by decide +kernel
theorem dX1_add_1 : decode cX1_add 1 = .ok (.getfield 15, 3) := by decide +kernel
theorem dX1_add_4 : decode cX1_add 4 = .ok (.aload_n 0, 1) := by decide +kernel
theorem dX1_add_5 : decode cX1_add 5 = .ok (.getfield 9, 3) := by decide +kernel
theorem dX1_add_8 : decode cX1_add 8 = .ok (.arraylength, 1) := by decide +kernel
theorem dX1_add_9 : decode cX1_add 9 = .ok (.if_icmp .lt 5, 3) := by decide +kernel
theorem dX1_add_12 : decode cX1_add 12 = .ok (.iconst 0, 1) := by decide +kernel
theorem dX1_add_13 : decode cX1_add 13 = .ok (.ireturn, 1) := by decide +kernel
theorem dX1_add_14 : decode cX1_add 14 = .ok (.aload_n 0, 1) := by decide +kernel
theorem dX1_add_15 : decode cX1_add 15 = .ok (.getfield 9, 3) := by decide +kernel
theorem dX1_add_18 : decode cX1_add 18 = .ok (.aload_n 0, 1) := by decide +kernel
theorem dX1_add_19 : decode cX1_add 19 = .ok (.getfield 15, 3) := by decide +kernel
theorem dX1_add_22 : decode cX1_add 22 = .ok (.iload_n 1, 1) := by decide +kernel
theorem dX1_add_23 : decode cX1_add 23 = .ok (.iastore, 1) := by decide +kernel
theorem dX1_add_24 : decode cX1_add 24 = .ok (.aload_n 0, 1) := by decide +kernel
theorem dX1_add_25 : decode cX1_add 25 = .ok (.dup, 1) := by decide +kernel
theorem dX1_add_26 : decode cX1_add 26 = .ok (.getfield 15, 3) := by decide +kernel
theorem dX1_add_29 : decode cX1_add 29 = .ok (.iconst 1, 1) := by decide +kernel
theorem dX1_add_30 : decode cX1_add 30 = .ok (.iadd, 1) := by decide +kernel
theorem dX1_add_31 : decode cX1_add 31 = .ok (.putfield 15, 3) := by decide +kernel
theorem dX1_add_34 : decode cX1_add 34 = .ok (.iconst 1, 1) := by decide +kernel
theorem dX1_add_35 : decode cX1_add 35 = .ok (.ireturn, 1) := by decide +kernel
theorem dX1_at_0 : decode cX1_at 0 = .ok (.iload_n 1, 1) := by decide +kernel
theorem dX1_at_1 : decode cX1_at 1 = .ok (.ifCond .lt 20, 3) := by decide +kernel
theorem dX1_at_4 : decode cX1_at 4 = .ok (.iload_n 1, 1) := by decide +kernel
theorem dX1_at_5 : decode cX1_at 5 = .ok (.aload_n 0, 1) := by decide +kernel
theorem dX1_at_6 : decode cX1_at 6 = .ok (.getfield 15, 3) := by decide +kernel
theorem dX1_at_9 : decode cX1_at 9 = .ok (.if_icmp .ge 12, 3) := by decide +kernel
theorem dX1_at_12 : decode cX1_at 12 = .ok (.aload_n 0, 1) := by decide +kernel
theorem dX1_at_13 : decode cX1_at 13 = .ok (.getfield 9, 3) := by decide +kernel
theorem dX1_at_16 : decode cX1_at 16 = .ok (.iload_n 1, 1) := by decide +kernel
theorem dX1_at_17 : decode cX1_at 17 = .ok (.iaload, 1) := by decide +kernel
theorem dX1_at_18 : decode cX1_at 18 = .ok (.goto 4, 3) := by decide +kernel
theorem dX1_at_21 : decode cX1_at 21 = .ok (.iconst 0, 1) := by decide +kernel
theorem dX1_at_22 : decode cX1_at 22 = .ok (.ireturn, 1) := by decide +kernel
set_option maxRecDepth 20000 in
theorem ggX1_patternFault_X4_isHandSign : GoodIn wsX1_patternFault wsX4_isHandSign := goodIn_r _ [6] (by decide +kernel) (by decide +kernel)
set_option maxRecDepth 20000 in
theorem gX1_patternFault_X4_isHandSign : GoodIn wsX1_patternFault (va_wsS RX1 19 yX4_isHandSign wsX4_isHandSign) := goodIn_app (goodIn_of _ (by decide +kernel)) ggX1_patternFault_X4_isHandSign
theorem dX1_patternFault_0 : decode cX1_patternFault 0 = .ok (.iconst 0, 1) := by decide +kernel
theorem dX1_patternFault_1 : decode cX1_patternFault 1 = .ok (.istore_n 1, 1) := by decide +kernel
theorem dX1_patternFault_2 : decode cX1_patternFault 2 = .ok (.iload_n 1, 1) := by decide +kernel
theorem dX1_patternFault_3 : decode cX1_patternFault 3 = .ok (.aload_n 0, 1) := by decide +kernel
theorem dX1_patternFault_4 : decode cX1_patternFault 4 = .ok (.getfield 15, 3) := by decide +kernel
theorem dX1_patternFault_7 : decode cX1_patternFault 7 = .ok (.if_icmp .ge 31, 3) := by decide +kernel
theorem dX1_patternFault_10 : decode cX1_patternFault 10 = .ok (.aload_n 0, 1) := by decide +kernel
theorem dX1_patternFault_11 : decode cX1_patternFault 11 = .ok (.getfield 9, 3) := by decide +kernel
theorem dX1_patternFault_14 : decode cX1_patternFault 14 = .ok (.iload_n 1, 1) := by decide +kernel
theorem dX1_patternFault_15 : decode cX1_patternFault 15 = .ok (.iaload, 1) := by decide +kernel
theorem dX1_patternFault_16 : decode cX1_patternFault 16 = .ok (.istore_n 2, 1) := by decide +kernel
theorem dX1_patternFault_17 : decode cX1_patternFault 17 = .ok (.iload_n 2, 1) := by decide +kernel
theorem dX1_patternFault_18 : decode cX1_patternFault 18 = .ok (.bipush 46, 2) := by decide +kernel
theorem dX1_patternFault_20 : decode cX1_patternFault 20 = .ok (.if_icmp .eq 12, 3) := by decide +kernel
theorem dX1_patternFault_23 : decode cX1_patternFault 23 = .ok (.iload_n 2, 1) := by decide +kernel
theorem dX1_patternFault_24 : decode cX1_patternFault 24 = .ok (.invokestatic 19, 3) := by decide +kernel
theorem dX1_patternFault_27 : decode cX1_patternFault 27 = .ok (.ifCond .ne 5, 3) := by decide +kernel
theorem dX1_patternFault_30 : decode cX1_patternFault 30 = .ok (.iload_n 1, 1) := by decide +kernel
theorem dX1_patternFault_31 : decode cX1_patternFault 31 = .ok (.ireturn, 1) := by decide +kernel
theorem dX1_patternFault_32 : decode cX1_patternFault 32 = .ok (.iinc 1 1, 3) := by decide +kernel
theorem dX1_patternFault_35 : decode cX1_patternFault 35 = .ok (.goto (-33), 3) := by decide +kernel
theorem dX1_patternFault_38 : decode cX1_patternFault 38 = .ok (.aload_n 0, 1) := by decide +kernel
theorem dX1_patternFault_39 : decode cX1_patternFault 39 = .ok (.getfield 15, 3) := by decide +kernel
theorem dX1_patternFault_42 : decode cX1_patternFault 42 = .ok (.ifCond .ne 7, 3) := by decide +kernel
theorem dX1_patternFault_45 : decode cX1_patternFault 45 = .ok (.iconst 0, 1) := by decide +kernel
theorem dX1_patternFault_46 : decode cX1_patternFault 46 = .ok (.goto 5, 3) := by decide +kernel
theorem dX1_patternFault_49 : decode cX1_patternFault 49 = .ok (.bipush (-4), 2) := by decide +kernel
theorem dX1_patternFault_51 : decode cX1_patternFault 51 = .ok (.ireturn, 1) := by decide +kernel
