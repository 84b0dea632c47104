theorem d_K_isSubject_0 : decode b_K_isSubject 0 = .ok (.iload_n 0, 1) := by decide +kernel
theorem d_K_isSubject_1 : decode b_K_isSubject 1 = .ok (.ifCond .lt 13, 3) := by decide +kernel
theorem d_K_isSubject_4 : decode b_K_isSubject 4 = .ok (.iload_n 0, 1) := by decide +kernel
theorem d_K_isSubject_5 : decode b_K_isSubject 5 = .ok (.bipush 16, 2) := by decide +kernel
theorem d_K_isSubject_7 : decode b_K_isSubject 7 = .ok (.if_icmp .ge 7, 3) := by decide +kernel
theorem d_K_isSubject_10 : decode b_K_isSubject 10 = .ok (.iconst 1, 1) := by decide +kernel
theorem d_K_isSubject_11 : decode b_K_isSubject 11 = .ok (.goto 4, 3) := by decide +kernel
theorem d_K_isSubject_14 : decode b_K_isSubject 14 = .ok (.iconst 0, 1) := by decide +kernel
theorem d_K_isSubject_15 : decode b_K_isSubject 15 = .ok (.ireturn, 1) := by decide +kernel
theorem d_K_isAlive_0 : decode b_K_isAlive 0 = .ok (.aload_n 0, 1) := by decide +kernel
theorem d_K_isAlive_1 : decode b_K_isAlive 1 = .ok (.invokevirtual 157, 3) := by decide +kernel
theorem d_K_isAlive_4 : decode b_K_isAlive 4 = .ok (.istore_n 1, 1) := by decide +kernel
theorem d_K_isAlive_5 : decode b_K_isAlive 5 = .ok (.iload_n 1, 1) := by decide +kernel
theorem d_K_isAlive_6 : decode b_K_isAlive 6 = .ok (.ifCond .eq 8, 3) := by decide +kernel
theorem d_K_isAlive_9 : decode b_K_isAlive 9 = .ok (.iload_n 1, 1) := by decide +kernel
theorem d_K_isAlive_10 : decode b_K_isAlive 10 = .ok (.iconst 1, 1) := by decide +kernel
theorem d_K_isAlive_11 : decode b_K_isAlive 11 = .ok (.if_icmp .ne 7, 3) := by decide +kernel
theorem d_K_isAlive_14 : decode b_K_isAlive 14 = .ok (.iconst 1, 1) := by decide +kernel
theorem d_K_isAlive_15 : decode b_K_isAlive 15 = .ok (.goto 4, 3) := by decide +kernel
theorem d_K_isAlive_18 : decode b_K_isAlive 18 = .ok (.iconst 0, 1) := by decide +kernel
theorem d_K_isAlive_19 : decode b_K_isAlive 19 = .ok (.ireturn, 1) := by decide +kernel
theorem d_K_isInTheMidst_0 : decode b_K_isInTheMidst 0 = .ok (.aload_n 1, 1) := by decide +kernel
theorem d_K_isInTheMidst_1 : decode b_K_isInTheMidst 1 = .ok (.getfield 120, 3) := by decide +kernel
theorem d_K_isInTheMidst_4 : decode b_K_isInTheMidst 4 = .ok (.iconst (-1), 1) := by decide +kernel
theorem d_K_isInTheMidst_5 : decode b_K_isInTheMidst 5 = .ok (.if_icmp .ne 11, 3) := by decide +kernel
theorem d_K_isInTheMidst_8 : decode b_K_isInTheMidst 8 = .ok (.aload_n 0, 1) := by decide +kernel
theorem d_K_isInTheMidst_9 : decode b_K_isInTheMidst 9 = .ok (.aload_n 1, 1) := by decide +kernel
theorem d_K_isInTheMidst_10 : decode b_K_isInTheMidst 10 = .ok (.invokevirtual 137, 3) := by decide +kernel
theorem d_K_isInTheMidst_13 : decode b_K_isInTheMidst 13 = .ok (.ifCond .eq 7, 3) := by decide +kernel
theorem d_K_isInTheMidst_16 : decode b_K_isInTheMidst 16 = .ok (.iconst 1, 1) := by decide +kernel
theorem d_K_isInTheMidst_17 : decode b_K_isInTheMidst 17 = .ok (.goto 4, 3) := by decide +kernel
theorem d_K_isInTheMidst_20 : decode b_K_isInTheMidst 20 = .ok (.iconst 0, 1) := by decide +kernel
theorem d_K_isInTheMidst_21 : decode b_K_isInTheMidst 21 = .ok (.ireturn, 1) := by decide +kernel
theorem d_K_heldBy_0 : decode b_K_heldBy 0 = .ok (.iconst 0, 1) := by decide +kernel
theorem d_K_heldBy_1 : decode b_K_heldBy 1 = .ok (.istore_n 2, 1) := by decide +kernel
theorem d_K_heldBy_2 : decode b_K_heldBy 2 = .ok (.iconst 0, 1) := by decide +kernel
theorem d_K_heldBy_3 : decode b_K_heldBy 3 = .ok (.istore_n 3, 1) := by decide +kernel
theorem d_K_heldBy_4 : decode b_K_heldBy 4 = .ok (.iload_n 3, 1) := by decide +kernel
theorem d_K_heldBy_5 : decode b_K_heldBy 5 = .ok (.bipush 16, 2) := by decide +kernel
theorem d_K_heldBy_7 : decode b_K_heldBy 7 = .ok (.if_icmp .ge 28, 3) := by decide +kernel
theorem d_K_heldBy_10 : decode b_K_heldBy 10 = .ok (.aload_n 0, 1) := by decide +kernel
theorem d_K_heldBy_11 : decode b_K_heldBy 11 = .ok (.getfield 19, 3) := by decide +kernel
theorem d_K_heldBy_14 : decode b_K_heldBy 14 = .ok (.iload_n 3, 1) := by decide +kernel
theorem d_K_heldBy_15 : decode b_K_heldBy 15 = .ok (.iaload, 1) := by decide +kernel
theorem d_K_heldBy_16 : decode b_K_heldBy 16 = .ok (.aload_n 1, 1) := by decide +kernel
theorem d_K_heldBy_17 : decode b_K_heldBy 17 = .ok (.getfield 117, 3) := by decide +kernel
theorem d_K_heldBy_20 : decode b_K_heldBy 20 = .ok (.if_icmp .ne 9, 3) := by decide +kernel
theorem d_K_heldBy_23 : decode b_K_heldBy 23 = .ok (.iload_n 2, 1) := by decide +kernel
theorem d_K_heldBy_24 : decode b_K_heldBy 24 = .ok (.iconst 1, 1) := by decide +kernel
theorem d_K_heldBy_25 : decode b_K_heldBy 25 = .ok (.iload_n 3, 1) := by decide +kernel
theorem d_K_heldBy_26 : decode b_K_heldBy 26 = .ok (.ishl, 1) := by decide +kernel
theorem d_K_heldBy_27 : decode b_K_heldBy 27 = .ok (.ior, 1) := by decide +kernel
theorem d_K_heldBy_28 : decode b_K_heldBy 28 = .ok (.istore_n 2, 1) := by decide +kernel
theorem d_K_heldBy_29 : decode b_K_heldBy 29 = .ok (.iinc 3 1, 3) := by decide +kernel
theorem d_K_heldBy_32 : decode b_K_heldBy 32 = .ok (.goto (-28), 3) := by decide +kernel
theorem d_K_heldBy_35 : decode b_K_heldBy 35 = .ok (.iload_n 2, 1) := by decide +kernel
theorem d_K_heldBy_36 : decode b_K_heldBy 36 = .ok (.ireturn, 1) := by decide +kernel
theorem d_K_subjectsHeld_0 : decode b_K_subjectsHeld 0 = .ok (.iconst 0, 1) := by decide +kernel
theorem d_K_subjectsHeld_1 : decode b_K_subjectsHeld 1 = .ok (.istore_n 1, 1) := by decide +kernel
theorem d_K_subjectsHeld_2 : decode b_K_subjectsHeld 2 = .ok (.iconst 0, 1) := by decide +kernel
theorem d_K_subjectsHeld_3 : decode b_K_subjectsHeld 3 = .ok (.istore_n 2, 1) := by decide +kernel
theorem d_K_subjectsHeld_4 : decode b_K_subjectsHeld 4 = .ok (.iload_n 2, 1) := by decide +kernel
theorem d_K_subjectsHeld_5 : decode b_K_subjectsHeld 5 = .ok (.bipush 16, 2) := by decide +kernel
theorem d_K_subjectsHeld_7 : decode b_K_subjectsHeld 7 = .ok (.if_icmp .ge 22, 3) := by decide +kernel
theorem d_K_subjectsHeld_10 : decode b_K_subjectsHeld 10 = .ok (.aload_n 0, 1) := by decide +kernel
theorem d_K_subjectsHeld_11 : decode b_K_subjectsHeld 11 = .ok (.getfield 19, 3) := by decide +kernel
theorem d_K_subjectsHeld_14 : decode b_K_subjectsHeld 14 = .ok (.iload_n 2, 1) := by decide +kernel
theorem d_K_subjectsHeld_15 : decode b_K_subjectsHeld 15 = .ok (.iaload, 1) := by decide +kernel
theorem d_K_subjectsHeld_16 : decode b_K_subjectsHeld 16 = .ok (.iconst (-1), 1) := by decide +kernel
theorem d_K_subjectsHeld_17 : decode b_K_subjectsHeld 17 = .ok (.if_icmp .eq 6, 3) := by decide +kernel
theorem d_K_subjectsHeld_20 : decode b_K_subjectsHeld 20 = .ok (.iinc 1 1, 3) := by decide +kernel
theorem d_K_subjectsHeld_23 : decode b_K_subjectsHeld 23 = .ok (.iinc 2 1, 3) := by decide +kernel
theorem d_K_subjectsHeld_26 : decode b_K_subjectsHeld 26 = .ok (.goto (-22), 3) := by decide +kernel
theorem d_K_subjectsHeld_29 : decode b_K_subjectsHeld 29 = .ok (.iload_n 1, 1) := by decide +kernel
theorem d_K_subjectsHeld_30 : decode b_K_subjectsHeld 30 = .ok (.ireturn, 1) := by decide +kernel
theorem d_K_takeTurn_0 : decode b_K_takeTurn 0 = .ok (.aload_n 1, 1) := by decide +kernel
theorem d_K_takeTurn_1 : decode b_K_takeTurn 1 = .ok (.invokevirtual 157, 3) := by decide +kernel
theorem d_K_takeTurn_4 : decode b_K_takeTurn 4 = .ok (.ifCond .eq 15, 3) := by decide +kernel
theorem d_K_takeTurn_7 : decode b_K_takeTurn 7 = .ok (.aload_n 0, 1) := by decide +kernel
theorem d_K_takeTurn_8 : decode b_K_takeTurn 8 = .ok (.dup, 1) := by decide +kernel
theorem d_K_takeTurn_9 : decode b_K_takeTurn 9 = .ok (.getfield 38, 3) := by decide +kernel
theorem d_K_takeTurn_12 : decode b_K_takeTurn 12 = .ok (.iconst 1, 1) := by decide +kernel
theorem d_K_takeTurn_13 : decode b_K_takeTurn 13 = .ok (.iadd, 1) := by decide +kernel
theorem d_K_takeTurn_14 : decode b_K_takeTurn 14 = .ok (.putfield 38, 3) := by decide +kernel
theorem d_K_takeTurn_17 : decode b_K_takeTurn 17 = .ok (.iconst 0, 1) := by decide +kernel
theorem d_K_takeTurn_18 : decode b_K_takeTurn 18 = .ok (.ireturn, 1) := by decide +kernel
theorem d_K_takeTurn_19 : decode b_K_takeTurn 19 = .ok (.aload_n 0, 1) := by decide +kernel
theorem d_K_takeTurn_20 : decode b_K_takeTurn 20 = .ok (.aload_n 1, 1) := by decide +kernel
theorem d_K_takeTurn_21 : decode b_K_takeTurn 21 = .ok (.invokevirtual 175, 3) := by decide +kernel
theorem d_K_takeTurn_24 : decode b_K_takeTurn 24 = .ok (.istore_n 2, 1) := by decide +kernel
theorem d_K_takeTurn_25 : decode b_K_takeTurn 25 = .ok (.iload_n 2, 1) := by decide +kernel
theorem d_K_takeTurn_26 : decode b_K_takeTurn 26 = .ok (.invokestatic 81, 3) := by decide +kernel
theorem d_K_takeTurn_29 : decode b_K_takeTurn 29 = .ok (.ifCond .eq 11, 3) := by decide +kernel
theorem d_K_takeTurn_32 : decode b_K_takeTurn 32 = .ok (.aload_n 0, 1) := by decide +kernel
theorem d_K_takeTurn_33 : decode b_K_takeTurn 33 = .ok (.aload_n 1, 1) := by decide +kernel
theorem d_K_takeTurn_34 : decode b_K_takeTurn 34 = .ok (.iload_n 2, 1) := by decide +kernel
theorem d_K_takeTurn_35 : decode b_K_takeTurn 35 = .ok (.invokevirtual 178, 3) := by decide +kernel
theorem d_K_takeTurn_38 : decode b_K_takeTurn 38 = .ok (.iconst 0, 1) := by decide +kernel
theorem d_K_takeTurn_39 : decode b_K_takeTurn 39 = .ok (.ireturn, 1) := by decide +kernel
theorem d_K_takeTurn_40 : decode b_K_takeTurn 40 = .ok (.aload_n 0, 1) := by decide +kernel
theorem d_K_takeTurn_41 : decode b_K_takeTurn 41 = .ok (.aload_n 1, 1) := by decide +kernel
theorem d_K_takeTurn_42 : decode b_K_takeTurn 42 = .ok (.invokevirtual 182, 3) := by decide +kernel
theorem d_K_takeTurn_45 : decode b_K_takeTurn 45 = .ok (.ireturn, 1) := by decide +kernel
theorem d_K_leastLacking_0 : decode b_K_leastLacking 0 = .ok (.iconst 0, 1) := by decide +kernel
theorem d_K_leastLacking_1 : decode b_K_leastLacking 1 = .ok (.istore_n 2, 1) := by decide +kernel
theorem d_K_leastLacking_2 : decode b_K_leastLacking 2 = .ok (.iload_n 2, 1) := by decide +kernel
theorem d_K_leastLacking_3 : decode b_K_leastLacking 3 = .ok (.bipush 16, 2) := by decide +kernel
theorem d_K_leastLacking_5 : decode b_K_leastLacking 5 = .ok (.if_icmp .ge 36, 3) := by decide +kernel
theorem d_K_leastLacking_8 : decode b_K_leastLacking 8 = .ok (.aload_n 1, 1) := by decide +kernel
theorem d_K_leastLacking_9 : decode b_K_leastLacking 9 = .ok (.aload_n 1, 1) := by decide +kernel
theorem d_K_leastLacking_10 : decode b_K_leastLacking 10 = .ok (.getfield 92, 3) := by decide +kernel
theorem d_K_leastLacking_13 : decode b_K_leastLacking 13 = .ok (.iload_n 2, 1) := by decide +kernel
theorem d_K_leastLacking_14 : decode b_K_leastLacking 14 = .ok (.invokevirtual 88, 3) := by decide +kernel
theorem d_K_leastLacking_17 : decode b_K_leastLacking 17 = .ok (.ifCond .eq 18, 3) := by decide +kernel
theorem d_K_leastLacking_20 : decode b_K_leastLacking 20 = .ok (.aload_n 0, 1) := by decide +kernel
theorem d_K_leastLacking_21 : decode b_K_leastLacking 21 = .ok (.getfield 19, 3) := by decide +kernel
theorem d_K_leastLacking_24 : decode b_K_leastLacking 24 = .ok (.iload_n 2, 1) := by decide +kernel
theorem d_K_leastLacking_25 : decode b_K_leastLacking 25 = .ok (.iaload, 1) := by decide +kernel
theorem d_K_leastLacking_26 : decode b_K_leastLacking 26 = .ok (.aload_n 1, 1) := by decide +kernel
theorem d_K_leastLacking_27 : decode b_K_leastLacking 27 = .ok (.getfield 117, 3) := by decide +kernel
theorem d_K_leastLacking_30 : decode b_K_leastLacking 30 = .ok (.if_icmp .eq 5, 3) := by decide +kernel
theorem d_K_leastLacking_33 : decode b_K_leastLacking 33 = .ok (.iload_n 2, 1) := by decide +kernel
theorem d_K_leastLacking_34 : decode b_K_leastLacking 34 = .ok (.ireturn, 1) := by decide +kernel
theorem d_K_leastLacking_35 : decode b_K_leastLacking 35 = .ok (.iinc 2 1, 3) := by decide +kernel
theorem d_K_leastLacking_38 : decode b_K_leastLacking 38 = .ok (.goto (-36), 3) := by decide +kernel
theorem d_K_leastLacking_41 : decode b_K_leastLacking 41 = .ok (.iconst (-1), 1) := by decide +kernel
theorem d_K_leastLacking_42 : decode b_K_leastLacking 42 = .ok (.ireturn, 1) := by decide +kernel
theorem d_K_ask_0 : decode b_K_ask 0 = .ok (.aload_n 0, 1) := by decide +kernel
theorem d_K_ask_1 : decode b_K_ask 1 = .ok (.getfield 19, 3) := by decide +kernel
theorem d_K_ask_4 : decode b_K_ask 4 = .ok (.iload_n 2, 1) := by decide +kernel
theorem d_K_ask_5 : decode b_K_ask 5 = .ok (.iaload, 1) := by decide +kernel
theorem d_K_ask_6 : decode b_K_ask 6 = .ok (.iconst (-1), 1) := by decide +kernel
theorem d_K_ask_7 : decode b_K_ask 7 = .ok (.if_icmp .ne 10, 3) := by decide +kernel
theorem d_K_ask_10 : decode b_K_ask 10 = .ok (.aload_n 0, 1) := by decide +kernel
theorem d_K_ask_11 : decode b_K_ask 11 = .ok (.aload_n 1, 1) := by decide +kernel
theorem d_K_ask_12 : decode b_K_ask 12 = .ok (.iload_n 2, 1) := by decide +kernel
theorem d_K_ask_13 : decode b_K_ask 13 = .ok (.invokevirtual 185, 3) := by decide +kernel
theorem d_K_ask_16 : decode b_K_ask 16 = .ok (.return_, 1) := by decide +kernel
theorem d_K_ask_17 : decode b_K_ask 17 = .ok (.aload_n 1, 1) := by decide +kernel
theorem d_K_ask_18 : decode b_K_ask 18 = .ok (.iload_n 2, 1) := by decide +kernel
theorem d_K_ask_19 : decode b_K_ask 19 = .ok (.putfield 120, 3) := by decide +kernel
theorem d_K_ask_22 : decode b_K_ask 22 = .ok (.aload_n 1, 1) := by decide +kernel
theorem d_K_ask_23 : decode b_K_ask 23 = .ok (.aload_n 0, 1) := by decide +kernel
theorem d_K_ask_24 : decode b_K_ask 24 = .ok (.getfield 26, 3) := by decide +kernel
theorem d_K_ask_27 : decode b_K_ask 27 = .ok (.putfield 188, 3) := by decide +kernel
theorem d_K_ask_30 : decode b_K_ask 30 = .ok (.aload_n 0, 1) := by decide +kernel
theorem d_K_ask_31 : decode b_K_ask 31 = .ok (.dup, 1) := by decide +kernel
theorem d_K_ask_32 : decode b_K_ask 32 = .ok (.getfield 26, 3) := by decide +kernel
theorem d_K_ask_35 : decode b_K_ask 35 = .ok (.iconst 1, 1) := by decide +kernel
theorem d_K_ask_36 : decode b_K_ask 36 = .ok (.iadd, 1) := by decide +kernel
theorem d_K_ask_37 : decode b_K_ask 37 = .ok (.putfield 26, 3) := by decide +kernel
theorem d_K_ask_40 : decode b_K_ask 40 = .ok (.return_, 1) := by decide +kernel
theorem d_K_take_0 : decode b_K_take 0 = .ok (.aload_n 1, 1) := by decide +kernel
theorem d_K_take_1 : decode b_K_take 1 = .ok (.iconst (-1), 1) := by decide +kernel
theorem d_K_take_2 : decode b_K_take 2 = .ok (.putfield 120, 3) := by decide +kernel
theorem d_K_take_5 : decode b_K_take 5 = .ok (.aload_n 0, 1) := by decide +kernel
theorem d_K_take_6 : decode b_K_take 6 = .ok (.getfield 19, 3) := by decide +kernel
theorem d_K_take_9 : decode b_K_take 9 = .ok (.iload_n 2, 1) := by decide +kernel
theorem d_K_take_10 : decode b_K_take 10 = .ok (.aload_n 1, 1) := by decide +kernel
theorem d_K_take_11 : decode b_K_take 11 = .ok (.getfield 117, 3) := by decide +kernel
theorem d_K_take_14 : decode b_K_take 14 = .ok (.iastore, 1) := by decide +kernel
theorem d_K_take_15 : decode b_K_take 15 = .ok (.aload_n 0, 1) := by decide +kernel
theorem d_K_take_16 : decode b_K_take 16 = .ok (.getfield 23, 3) := by decide +kernel
theorem d_K_take_19 : decode b_K_take 19 = .ok (.iload_n 2, 1) := by decide +kernel
theorem d_K_take_20 : decode b_K_take 20 = .ok (.aload_n 0, 1) := by decide +kernel
theorem d_K_take_21 : decode b_K_take 21 = .ok (.getfield 47, 3) := by decide +kernel
theorem d_K_take_24 : decode b_K_take 24 = .ok (.iastore, 1) := by decide +kernel
theorem d_K_take_25 : decode b_K_take 25 = .ok (.return_, 1) := by decide +kernel
theorem d_K_doOrUndo_0 : decode b_K_doOrUndo 0 = .ok (.aload_n 1, 1) := by decide +kernel
theorem d_K_doOrUndo_1 : decode b_K_doOrUndo 1 = .ok (.getfield 92, 3) := by decide +kernel
theorem d_K_doOrUndo_4 : decode b_K_doOrUndo 4 = .ok (.aload_n 1, 1) := by decide +kernel
theorem d_K_doOrUndo_5 : decode b_K_doOrUndo 5 = .ok (.getfield 191, 3) := by decide +kernel
theorem d_K_doOrUndo_8 : decode b_K_doOrUndo 8 = .ok (.if_icmp .ne 7, 3) := by decide +kernel
theorem d_K_doOrUndo_11 : decode b_K_doOrUndo 11 = .ok (.iconst 1, 1) := by decide +kernel
theorem d_K_doOrUndo_12 : decode b_K_doOrUndo 12 = .ok (.goto 4, 3) := by decide +kernel
theorem d_K_doOrUndo_15 : decode b_K_doOrUndo 15 = .ok (.iconst 0, 1) := by decide +kernel
theorem d_K_doOrUndo_16 : decode b_K_doOrUndo 16 = .ok (.istore_n 2, 1) := by decide +kernel
theorem d_K_doOrUndo_17 : decode b_K_doOrUndo 17 = .ok (.aload_n 0, 1) := by decide +kernel
theorem d_K_doOrUndo_18 : decode b_K_doOrUndo 18 = .ok (.iload_n 2, 1) := by decide +kernel
theorem d_K_doOrUndo_19 : decode b_K_doOrUndo 19 = .ok (.ifCond .eq 7, 3) := by decide +kernel
theorem d_K_doOrUndo_22 : decode b_K_doOrUndo 22 = .ok (.iconst 2, 1) := by decide +kernel
theorem d_K_doOrUndo_23 : decode b_K_doOrUndo 23 = .ok (.goto 4, 3) := by decide +kernel
theorem d_K_doOrUndo_26 : decode b_K_doOrUndo 26 = .ok (.iconst 1, 1) := by decide +kernel
theorem d_K_doOrUndo_27 : decode b_K_doOrUndo 27 = .ok (.aload_n 1, 1) := by decide +kernel
theorem d_K_doOrUndo_28 : decode b_K_doOrUndo 28 = .ok (.invokevirtual 127, 3) := by decide +kernel
theorem d_K_doOrUndo_31 : decode b_K_doOrUndo 31 = .ok (.aload_n 0, 1) := by decide +kernel
theorem d_K_doOrUndo_32 : decode b_K_doOrUndo 32 = .ok (.aload_n 1, 1) := by decide +kernel
theorem d_K_doOrUndo_33 : decode b_K_doOrUndo 33 = .ok (.invokevirtual 123, 3) := by decide +kernel
theorem d_K_doOrUndo_36 : decode b_K_doOrUndo 36 = .ok (.iload_n 2, 1) := by decide +kernel
theorem d_K_doOrUndo_37 : decode b_K_doOrUndo 37 = .ok (.ifCond .eq 10, 3) := by decide +kernel
theorem d_K_doOrUndo_40 : decode b_K_doOrUndo 40 = .ok (.aload_n 1, 1) := by decide +kernel
theorem d_K_doOrUndo_41 : decode b_K_doOrUndo 41 = .ok (.iconst (-1), 1) := by decide +kernel
theorem d_K_doOrUndo_42 : decode b_K_doOrUndo 42 = .ok (.putfield 191, 3) := by decide +kernel
theorem d_K_doOrUndo_45 : decode b_K_doOrUndo 45 = .ok (.iconst 0, 1) := by decide +kernel
theorem d_K_doOrUndo_46 : decode b_K_doOrUndo 46 = .ok (.ireturn, 1) := by decide +kernel
theorem d_K_doOrUndo_47 : decode b_K_doOrUndo 47 = .ok (.aload_n 1, 1) := by decide +kernel
theorem d_K_doOrUndo_48 : decode b_K_doOrUndo 48 = .ok (.dup, 1) := by decide +kernel
theorem d_K_doOrUndo_49 : decode b_K_doOrUndo 49 = .ok (.getfield 92, 3) := by decide +kernel
theorem d_K_doOrUndo_52 : decode b_K_doOrUndo 52 = .ok (.iconst 1, 1) := by decide +kernel
theorem d_K_doOrUndo_53 : decode b_K_doOrUndo 53 = .ok (.iadd, 1) := by decide +kernel
theorem d_K_doOrUndo_54 : decode b_K_doOrUndo 54 = .ok (.putfield 92, 3) := by decide +kernel
theorem d_K_doOrUndo_57 : decode b_K_doOrUndo 57 = .ok (.aload_n 1, 1) := by decide +kernel
theorem d_K_doOrUndo_58 : decode b_K_doOrUndo 58 = .ok (.dup, 1) := by decide +kernel
theorem d_K_doOrUndo_59 : decode b_K_doOrUndo 59 = .ok (.getfield 167, 3) := by decide +kernel
theorem d_K_doOrUndo_62 : decode b_K_doOrUndo 62 = .ok (.iconst 1, 1) := by decide +kernel
theorem d_K_doOrUndo_63 : decode b_K_doOrUndo 63 = .ok (.iadd, 1) := by decide +kernel
theorem d_K_doOrUndo_64 : decode b_K_doOrUndo 64 = .ok (.putfield 167, 3) := by decide +kernel
theorem d_K_doOrUndo_67 : decode b_K_doOrUndo 67 = .ok (.iconst 1, 1) := by decide +kernel
theorem d_K_doOrUndo_68 : decode b_K_doOrUndo 68 = .ok (.ireturn, 1) := by decide +kernel
theorem d_K_giveBackAll_0 : decode b_K_giveBackAll 0 = .ok (.iconst 0, 1) := by decide +kernel
theorem d_K_giveBackAll_1 : decode b_K_giveBackAll 1 = .ok (.istore_n 2, 1) := by decide +kernel
theorem d_K_giveBackAll_2 : decode b_K_giveBackAll 2 = .ok (.iload_n 2, 1) := by decide +kernel
theorem d_K_giveBackAll_3 : decode b_K_giveBackAll 3 = .ok (.bipush 16, 2) := by decide +kernel
theorem d_K_giveBackAll_5 : decode b_K_giveBackAll 5 = .ok (.if_icmp .ge 27, 3) := by decide +kernel
theorem d_K_giveBackAll_8 : decode b_K_giveBackAll 8 = .ok (.aload_n 0, 1) := by decide +kernel
theorem d_K_giveBackAll_9 : decode b_K_giveBackAll 9 = .ok (.getfield 19, 3) := by decide +kernel
theorem d_K_giveBackAll_12 : decode b_K_giveBackAll 12 = .ok (.iload_n 2, 1) := by decide +kernel
theorem d_K_giveBackAll_13 : decode b_K_giveBackAll 13 = .ok (.iaload, 1) := by decide +kernel
theorem d_K_giveBackAll_14 : decode b_K_giveBackAll 14 = .ok (.aload_n 1, 1) := by decide +kernel
theorem d_K_giveBackAll_15 : decode b_K_giveBackAll 15 = .ok (.getfield 117, 3) := by decide +kernel
theorem d_K_giveBackAll_18 : decode b_K_giveBackAll 18 = .ok (.if_icmp .ne 8, 3) := by decide +kernel
theorem d_K_giveBackAll_21 : decode b_K_giveBackAll 21 = .ok (.aload_n 0, 1) := by decide +kernel
theorem d_K_giveBackAll_22 : decode b_K_giveBackAll 22 = .ok (.iload_n 2, 1) := by decide +kernel
theorem d_K_giveBackAll_23 : decode b_K_giveBackAll 23 = .ok (.invokevirtual 153, 3) := by decide +kernel
theorem d_K_giveBackAll_26 : decode b_K_giveBackAll 26 = .ok (.iinc 2 1, 3) := by decide +kernel
theorem d_K_giveBackAll_29 : decode b_K_giveBackAll 29 = .ok (.goto (-27), 3) := by decide +kernel
theorem d_K_giveBackAll_32 : decode b_K_giveBackAll 32 = .ok (.return_, 1) := by decide +kernel
theorem d_K_giveBack_0 : decode b_K_giveBack 0 = .ok (.aload_n 0, 1) := by decide +kernel
theorem d_K_giveBack_1 : decode b_K_giveBack 1 = .ok (.getfield 19, 3) := by decide +kernel
theorem d_K_giveBack_4 : decode b_K_giveBack 4 = .ok (.iload_n 1, 1) := by decide +kernel
theorem d_K_giveBack_5 : decode b_K_giveBack 5 = .ok (.iconst (-1), 1) := by decide +kernel
theorem d_K_giveBack_6 : decode b_K_giveBack 6 = .ok (.iastore, 1) := by decide +kernel
theorem d_K_giveBack_7 : decode b_K_giveBack 7 = .ok (.aload_n 0, 1) := by decide +kernel
theorem d_K_giveBack_8 : decode b_K_giveBack 8 = .ok (.iload_n 1, 1) := by decide +kernel
theorem d_K_giveBack_9 : decode b_K_giveBack 9 = .ok (.iconst 0, 1) := by decide +kernel
theorem d_K_giveBack_10 : decode b_K_giveBack 10 = .ok (.invokevirtual 113, 3) := by decide +kernel
theorem d_K_giveBack_13 : decode b_K_giveBack 13 = .ok (.astore_n 2, 1) := by decide +kernel
theorem d_K_giveBack_14 : decode b_K_giveBack 14 = .ok (.aload_n 2, 1) := by decide +kernel
theorem d_K_giveBack_15 : decode b_K_giveBack 15 = .ok (.ifnull 9, 3) := by decide +kernel
theorem d_K_giveBack_18 : decode b_K_giveBack 18 = .ok (.aload_n 0, 1) := by decide +kernel
theorem d_K_giveBack_19 : decode b_K_giveBack 19 = .ok (.aload_n 2, 1) := by decide +kernel
theorem d_K_giveBack_20 : decode b_K_giveBack 20 = .ok (.iload_n 1, 1) := by decide +kernel
theorem d_K_giveBack_21 : decode b_K_giveBack 21 = .ok (.invokevirtual 185, 3) := by decide +kernel
theorem d_K_giveBack_24 : decode b_K_giveBack 24 = .ok (.return_, 1) := by decide +kernel
