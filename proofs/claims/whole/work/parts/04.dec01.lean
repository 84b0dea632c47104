theorem d_D_init_0 : decode b_D_init 0 = .ok (.aload_n 0, 1) := by decide +kernel
theorem d_D_init_1 : decode b_D_init 1 = .ok (.invokespecial 3, 3) := by decide +kernel
theorem d_D_init_4 : decode b_D_init 4 = .ok (.aload_n 0, 1) := by decide +kernel
theorem d_D_init_5 : decode b_D_init 5 = .ok (.bipush 12, 2) := by decide +kernel
theorem d_D_init_7 : decode b_D_init 7 = .ok (.newarray .int, 2) := by decide +kernel
theorem d_D_init_9 : decode b_D_init 9 = .ok (.putfield 9, 3) := by decide +kernel
theorem d_D_init_12 : decode b_D_init 12 = .ok (.aload_n 0, 1) := by decide +kernel
theorem d_D_init_13 : decode b_D_init 13 = .ok (.iconst 0, 1) := by decide +kernel
theorem d_D_init_14 : decode b_D_init 14 = .ok (.putfield 15, 3) := by decide +kernel
theorem d_D_init_17 : decode b_D_init 17 = .ok (.aload_n 0, 1) := by decide +kernel
theorem d_D_init_18 : decode b_D_init 18 = .ok (.iconst 0, 1) := by decide +kernel
theorem d_D_init_19 : decode b_D_init 19 = .ok (.putfield 19, 3) := by decide +kernel
theorem d_D_init_22 : decode b_D_init 22 = .ok (.aload_n 0, 1) := by decide +kernel
theorem d_D_init_23 : decode b_D_init 23 = .ok (.iconst (-1), 1) := by decide +kernel
theorem d_D_init_24 : decode b_D_init 24 = .ok (.putfield 22, 3) := by decide +kernel
theorem d_D_init_27 : decode b_D_init 27 = .ok (.aload_n 0, 1) := by decide +kernel
theorem d_D_init_28 : decode b_D_init 28 = .ok (.iconst 0, 1) := by decide +kernel
theorem d_D_init_29 : decode b_D_init 29 = .ok (.putfield 25, 3) := by decide +kernel
theorem d_D_init_32 : decode b_D_init 32 = .ok (.aload_n 0, 1) := by decide +kernel
theorem d_D_init_33 : decode b_D_init 33 = .ok (.iconst 0, 1) := by decide +kernel
theorem d_D_init_34 : decode b_D_init 34 = .ok (.putfield 28, 3) := by decide +kernel
theorem d_D_init_37 : decode b_D_init 37 = .ok (.aload_n 0, 1) := by decide +kernel
theorem d_D_init_38 : decode b_D_init 38 = .ok (.iconst 0, 1) := by decide +kernel
theorem d_D_init_39 : decode b_D_init 39 = .ok (.putfield 32, 3) := by decide +kernel
theorem d_D_init_42 : decode b_D_init 42 = .ok (.aload_n 0, 1) := by decide +kernel
theorem d_D_init_43 : decode b_D_init 43 = .ok (.iload_n 1, 1) := by decide +kernel
theorem d_D_init_44 : decode b_D_init 44 = .ok (.putfield 35, 3) := by decide +kernel
theorem d_D_init_47 : decode b_D_init 47 = .ok (.aload_n 0, 1) := by decide +kernel
theorem d_D_init_48 : decode b_D_init 48 = .ok (.iload_n 2, 1) := by decide +kernel
theorem d_D_init_49 : decode b_D_init 49 = .ok (.putfield 38, 3) := by decide +kernel
theorem d_D_init_52 : decode b_D_init 52 = .ok (.aload_n 0, 1) := by decide +kernel
theorem d_D_init_53 : decode b_D_init 53 = .ok (.iload_n 3, 1) := by decide +kernel
theorem d_D_init_54 : decode b_D_init 54 = .ok (.putfield 41, 3) := by decide +kernel
theorem d_D_init_57 : decode b_D_init 57 = .ok (.return_, 1) := by decide +kernel
theorem d_D_condition_0 : decode b_D_condition 0 = .ok (.aload_n 0, 1) := by decide +kernel
theorem d_D_condition_1 : decode b_D_condition 1 = .ok (.getfield 32, 3) := by decide +kernel
theorem d_D_condition_4 : decode b_D_condition 4 = .ok (.ifCond .eq 5, 3) := by decide +kernel
theorem d_D_condition_7 : decode b_D_condition 7 = .ok (.iconst 4, 1) := by decide +kernel
theorem d_D_condition_8 : decode b_D_condition 8 = .ok (.ireturn, 1) := by decide +kernel
theorem d_D_condition_9 : decode b_D_condition 9 = .ok (.aload_n 0, 1) := by decide +kernel
theorem d_D_condition_10 : decode b_D_condition 10 = .ok (.getfield 28, 3) := by decide +kernel
theorem d_D_condition_13 : decode b_D_condition 13 = .ok (.ifCond .eq 5, 3) := by decide +kernel
theorem d_D_condition_16 : decode b_D_condition 16 = .ok (.iconst 3, 1) := by decide +kernel
theorem d_D_condition_17 : decode b_D_condition 17 = .ok (.ireturn, 1) := by decide +kernel
theorem d_D_condition_18 : decode b_D_condition 18 = .ok (.aload_n 0, 1) := by decide +kernel
theorem d_D_condition_19 : decode b_D_condition 19 = .ok (.getfield 15, 3) := by decide +kernel
theorem d_D_condition_22 : decode b_D_condition 22 = .ok (.aload_n 0, 1) := by decide +kernel
theorem d_D_condition_23 : decode b_D_condition 23 = .ok (.getfield 38, 3) := by decide +kernel
theorem d_D_condition_26 : decode b_D_condition 26 = .ok (.if_icmp .lt 5, 3) := by decide +kernel
theorem d_D_condition_29 : decode b_D_condition 29 = .ok (.iconst 2, 1) := by decide +kernel
theorem d_D_condition_30 : decode b_D_condition 30 = .ok (.ireturn, 1) := by decide +kernel
theorem d_D_condition_31 : decode b_D_condition 31 = .ok (.aload_n 0, 1) := by decide +kernel
theorem d_D_condition_32 : decode b_D_condition 32 = .ok (.getfield 22, 3) := by decide +kernel
theorem d_D_condition_35 : decode b_D_condition 35 = .ok (.iconst (-1), 1) := by decide +kernel
theorem d_D_condition_36 : decode b_D_condition 36 = .ok (.if_icmp .eq 7, 3) := by decide +kernel
theorem d_D_condition_39 : decode b_D_condition 39 = .ok (.iconst 1, 1) := by decide +kernel
theorem d_D_condition_40 : decode b_D_condition 40 = .ok (.goto 4, 3) := by decide +kernel
theorem d_D_condition_43 : decode b_D_condition 43 = .ok (.iconst 0, 1) := by decide +kernel
theorem d_D_condition_44 : decode b_D_condition 44 = .ok (.ireturn, 1) := by decide +kernel
theorem d_D_isAhead_0 : decode b_D_isAhead 0 = .ok (.iload_n 1, 1) := by decide +kernel
theorem d_D_isAhead_1 : decode b_D_isAhead 1 = .ok (.ifCond .lt 23, 3) := by decide +kernel
theorem d_D_isAhead_4 : decode b_D_isAhead 4 = .ok (.iload_n 1, 1) := by decide +kernel
theorem d_D_isAhead_5 : decode b_D_isAhead 5 = .ok (.aload_n 0, 1) := by decide +kernel
theorem d_D_isAhead_6 : decode b_D_isAhead 6 = .ok (.getfield 15, 3) := by decide +kernel
theorem d_D_isAhead_9 : decode b_D_isAhead 9 = .ok (.if_icmp .lt 15, 3) := by decide +kernel
theorem d_D_isAhead_12 : decode b_D_isAhead 12 = .ok (.iload_n 1, 1) := by decide +kernel
theorem d_D_isAhead_13 : decode b_D_isAhead 13 = .ok (.aload_n 0, 1) := by decide +kernel
theorem d_D_isAhead_14 : decode b_D_isAhead 14 = .ok (.getfield 38, 3) := by decide +kernel
theorem d_D_isAhead_17 : decode b_D_isAhead 17 = .ok (.if_icmp .ge 7, 3) := by decide +kernel
theorem d_D_isAhead_20 : decode b_D_isAhead 20 = .ok (.iconst 1, 1) := by decide +kernel
theorem d_D_isAhead_21 : decode b_D_isAhead 21 = .ok (.goto 4, 3) := by decide +kernel
theorem d_D_isAhead_24 : decode b_D_isAhead 24 = .ok (.iconst 0, 1) := by decide +kernel
theorem d_D_isAhead_25 : decode b_D_isAhead 25 = .ok (.ireturn, 1) := by decide +kernel
theorem d_D_hasNeed_0 : decode b_D_hasNeed 0 = .ok (.iload_n 1, 1) := by decide +kernel
theorem d_D_hasNeed_1 : decode b_D_hasNeed 1 = .ok (.ifCond .lt 29, 3) := by decide +kernel
theorem d_D_hasNeed_4 : decode b_D_hasNeed 4 = .ok (.iload_n 1, 1) := by decide +kernel
theorem d_D_hasNeed_5 : decode b_D_hasNeed 5 = .ok (.aload_n 0, 1) := by decide +kernel
theorem d_D_hasNeed_6 : decode b_D_hasNeed 6 = .ok (.getfield 9, 3) := by decide +kernel
theorem d_D_hasNeed_9 : decode b_D_hasNeed 9 = .ok (.arraylength, 1) := by decide +kernel
theorem d_D_hasNeed_10 : decode b_D_hasNeed 10 = .ok (.if_icmp .ge 20, 3) := by decide +kernel
theorem d_D_hasNeed_13 : decode b_D_hasNeed 13 = .ok (.aload_n 0, 1) := by decide +kernel
theorem d_D_hasNeed_14 : decode b_D_hasNeed 14 = .ok (.getfield 9, 3) := by decide +kernel
theorem d_D_hasNeed_17 : decode b_D_hasNeed 17 = .ok (.iload_n 1, 1) := by decide +kernel
theorem d_D_hasNeed_18 : decode b_D_hasNeed 18 = .ok (.iaload, 1) := by decide +kernel
theorem d_D_hasNeed_19 : decode b_D_hasNeed 19 = .ok (.iload_n 2, 1) := by decide +kernel
theorem d_D_hasNeed_20 : decode b_D_hasNeed 20 = .ok (.ishr, 1) := by decide +kernel
theorem d_D_hasNeed_21 : decode b_D_hasNeed 21 = .ok (.iconst 1, 1) := by decide +kernel
theorem d_D_hasNeed_22 : decode b_D_hasNeed 22 = .ok (.iand, 1) := by decide +kernel
theorem d_D_hasNeed_23 : decode b_D_hasNeed 23 = .ok (.ifCond .eq 7, 3) := by decide +kernel
theorem d_D_hasNeed_26 : decode b_D_hasNeed 26 = .ok (.iconst 1, 1) := by decide +kernel
theorem d_D_hasNeed_27 : decode b_D_hasNeed 27 = .ok (.goto 4, 3) := by decide +kernel
theorem d_D_hasNeed_30 : decode b_D_hasNeed 30 = .ok (.iconst 0, 1) := by decide +kernel
theorem d_D_hasNeed_31 : decode b_D_hasNeed 31 = .ok (.ireturn, 1) := by decide +kernel
theorem d_D_addNeed_0 : decode b_D_addNeed 0 = .ok (.iload_n 1, 1) := by decide +kernel
theorem d_D_addNeed_1 : decode b_D_addNeed 1 = .ok (.ifCond .lt 24, 3) := by decide +kernel
theorem d_D_addNeed_4 : decode b_D_addNeed 4 = .ok (.iload_n 1, 1) := by decide +kernel
theorem d_D_addNeed_5 : decode b_D_addNeed 5 = .ok (.aload_n 0, 1) := by decide +kernel
theorem d_D_addNeed_6 : decode b_D_addNeed 6 = .ok (.getfield 9, 3) := by decide +kernel
theorem d_D_addNeed_9 : decode b_D_addNeed 9 = .ok (.arraylength, 1) := by decide +kernel
theorem d_D_addNeed_10 : decode b_D_addNeed 10 = .ok (.if_icmp .ge 15, 3) := by decide +kernel
theorem d_D_addNeed_13 : decode b_D_addNeed 13 = .ok (.aload_n 0, 1) := by decide +kernel
theorem d_D_addNeed_14 : decode b_D_addNeed 14 = .ok (.getfield 9, 3) := by decide +kernel
theorem d_D_addNeed_17 : decode b_D_addNeed 17 = .ok (.iload_n 1, 1) := by decide +kernel
theorem d_D_addNeed_18 : decode b_D_addNeed 18 = .ok (.dup2, 1) := by decide +kernel
theorem d_D_addNeed_19 : decode b_D_addNeed 19 = .ok (.iaload, 1) := by decide +kernel
theorem d_D_addNeed_20 : decode b_D_addNeed 20 = .ok (.iconst 1, 1) := by decide +kernel
theorem d_D_addNeed_21 : decode b_D_addNeed 21 = .ok (.iload_n 2, 1) := by decide +kernel
theorem d_D_addNeed_22 : decode b_D_addNeed 22 = .ok (.ishl, 1) := by decide +kernel
theorem d_D_addNeed_23 : decode b_D_addNeed 23 = .ok (.ior, 1) := by decide +kernel
theorem d_D_addNeed_24 : decode b_D_addNeed 24 = .ok (.iastore, 1) := by decide +kernel
theorem d_D_addNeed_25 : decode b_D_addNeed 25 = .ok (.return_, 1) := by decide +kernel
