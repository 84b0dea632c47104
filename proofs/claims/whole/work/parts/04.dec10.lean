theorem d_L_desk_0 : decode b_L_desk 0 = .ok (.aload_n 3, 1) := by decide +kernel
theorem d_L_desk_1 : decode b_L_desk 1 = .ok (.iconst 0, 1) := by decide +kernel
theorem d_L_desk_2 : decode b_L_desk 2 = .ok (.aload_n 0, 1) := by decide +kernel
theorem d_L_desk_3 : decode b_L_desk 3 = .ok (.iload_n 1, 1) := by decide +kernel
theorem d_L_desk_4 : decode b_L_desk 4 = .ok (.iload_n 2, 1) := by decide +kernel
theorem d_L_desk_5 : decode b_L_desk 5 = .ok (.invokevirtual 7, 3) := by decide +kernel
theorem d_L_desk_8 : decode b_L_desk 8 = .ok (.i2l, 1) := by decide +kernel
theorem d_L_desk_9 : decode b_L_desk 9 = .ok (.lastore, 1) := by decide +kernel
theorem d_L_desk_10 : decode b_L_desk 10 = .ok (.goto 11, 3) := by decide +kernel
theorem d_L_desk_13 : decode b_L_desk 13 = .ok (.astore 4, 2) := by decide +kernel
theorem d_L_desk_15 : decode b_L_desk 15 = .ok (.iconst 1, 1) := by decide +kernel
theorem d_L_desk_16 : decode b_L_desk 16 = .ok (.ireturn, 1) := by decide +kernel
theorem d_L_desk_17 : decode b_L_desk 17 = .ok (.astore 4, 2) := by decide +kernel
theorem d_L_desk_19 : decode b_L_desk 19 = .ok (.iconst 2, 1) := by decide +kernel
theorem d_L_desk_20 : decode b_L_desk 20 = .ok (.ireturn, 1) := by decide +kernel
theorem d_L_desk_21 : decode b_L_desk 21 = .ok (.iconst 0, 1) := by decide +kernel
theorem d_L_desk_22 : decode b_L_desk 22 = .ok (.ireturn, 1) := by decide +kernel
theorem d_L_turn_0 : decode b_L_turn 0 = .ok (.aload_n 2, 1) := by decide +kernel
theorem d_L_turn_1 : decode b_L_turn 1 = .ok (.iconst 0, 1) := by decide +kernel
theorem d_L_turn_2 : decode b_L_turn 2 = .ok (.aload_n 0, 1) := by decide +kernel
theorem d_L_turn_3 : decode b_L_turn 3 = .ok (.iload_n 1, 1) := by decide +kernel
theorem d_L_turn_4 : decode b_L_turn 4 = .ok (.invokevirtual 17, 3) := by decide +kernel
theorem d_L_turn_7 : decode b_L_turn 7 = .ok (.i2l, 1) := by decide +kernel
theorem d_L_turn_8 : decode b_L_turn 8 = .ok (.lastore, 1) := by decide +kernel
theorem d_L_turn_9 : decode b_L_turn 9 = .ok (.goto 9, 3) := by decide +kernel
theorem d_L_turn_12 : decode b_L_turn 12 = .ok (.astore_n 3, 1) := by decide +kernel
theorem d_L_turn_13 : decode b_L_turn 13 = .ok (.iconst 1, 1) := by decide +kernel
theorem d_L_turn_14 : decode b_L_turn 14 = .ok (.ireturn, 1) := by decide +kernel
theorem d_L_turn_15 : decode b_L_turn 15 = .ok (.astore_n 3, 1) := by decide +kernel
theorem d_L_turn_16 : decode b_L_turn 16 = .ok (.iconst 2, 1) := by decide +kernel
theorem d_L_turn_17 : decode b_L_turn 17 = .ok (.ireturn, 1) := by decide +kernel
theorem d_L_turn_18 : decode b_L_turn 18 = .ok (.iconst 0, 1) := by decide +kernel
theorem d_L_turn_19 : decode b_L_turn 19 = .ok (.ireturn, 1) := by decide +kernel
theorem d_L_run_0 : decode b_L_run 0 = .ok (.aload_n 1, 1) := by decide +kernel
theorem d_L_run_1 : decode b_L_run 1 = .ok (.iconst 0, 1) := by decide +kernel
theorem d_L_run_2 : decode b_L_run 2 = .ok (.aload_n 0, 1) := by decide +kernel
theorem d_L_run_3 : decode b_L_run 3 = .ok (.invokevirtual 21, 3) := by decide +kernel
theorem d_L_run_6 : decode b_L_run 6 = .ok (.i2l, 1) := by decide +kernel
theorem d_L_run_7 : decode b_L_run 7 = .ok (.lastore, 1) := by decide +kernel
theorem d_L_run_8 : decode b_L_run 8 = .ok (.goto 6, 3) := by decide +kernel
theorem d_L_run_11 : decode b_L_run 11 = .ok (.astore_n 2, 1) := by decide +kernel
theorem d_L_run_12 : decode b_L_run 12 = .ok (.iconst 1, 1) := by decide +kernel
theorem d_L_run_13 : decode b_L_run 13 = .ok (.ireturn, 1) := by decide +kernel
theorem d_L_run_14 : decode b_L_run 14 = .ok (.iconst 0, 1) := by decide +kernel
theorem d_L_run_15 : decode b_L_run 15 = .ok (.ireturn, 1) := by decide +kernel
theorem d_L_holder_0 : decode b_L_holder 0 = .ok (.aload_n 2, 1) := by decide +kernel
theorem d_L_holder_1 : decode b_L_holder 1 = .ok (.iconst 0, 1) := by decide +kernel
theorem d_L_holder_2 : decode b_L_holder 2 = .ok (.aload_n 0, 1) := by decide +kernel
theorem d_L_holder_3 : decode b_L_holder 3 = .ok (.iload_n 1, 1) := by decide +kernel
theorem d_L_holder_4 : decode b_L_holder 4 = .ok (.invokevirtual 25, 3) := by decide +kernel
theorem d_L_holder_7 : decode b_L_holder 7 = .ok (.i2l, 1) := by decide +kernel
theorem d_L_holder_8 : decode b_L_holder 8 = .ok (.lastore, 1) := by decide +kernel
theorem d_L_holder_9 : decode b_L_holder 9 = .ok (.goto 6, 3) := by decide +kernel
theorem d_L_holder_12 : decode b_L_holder 12 = .ok (.astore_n 3, 1) := by decide +kernel
theorem d_L_holder_13 : decode b_L_holder 13 = .ok (.iconst 1, 1) := by decide +kernel
theorem d_L_holder_14 : decode b_L_holder 14 = .ok (.ireturn, 1) := by decide +kernel
theorem d_L_holder_15 : decode b_L_holder 15 = .ok (.iconst 0, 1) := by decide +kernel
theorem d_L_holder_16 : decode b_L_holder 16 = .ok (.ireturn, 1) := by decide +kernel
theorem d_L_waits_0 : decode b_L_waits 0 = .ok (.aload_n 3, 1) := by decide +kernel
theorem d_L_waits_1 : decode b_L_waits 1 = .ok (.iconst 0, 1) := by decide +kernel
theorem d_L_waits_2 : decode b_L_waits 2 = .ok (.aload_n 0, 1) := by decide +kernel
theorem d_L_waits_3 : decode b_L_waits 3 = .ok (.iload_n 1, 1) := by decide +kernel
theorem d_L_waits_4 : decode b_L_waits 4 = .ok (.iload_n 2, 1) := by decide +kernel
theorem d_L_waits_5 : decode b_L_waits 5 = .ok (.invokevirtual 28, 3) := by decide +kernel
theorem d_L_waits_8 : decode b_L_waits 8 = .ok (.i2l, 1) := by decide +kernel
theorem d_L_waits_9 : decode b_L_waits 9 = .ok (.lastore, 1) := by decide +kernel
theorem d_L_waits_10 : decode b_L_waits 10 = .ok (.goto 7, 3) := by decide +kernel
theorem d_L_waits_13 : decode b_L_waits 13 = .ok (.astore 4, 2) := by decide +kernel
theorem d_L_waits_15 : decode b_L_waits 15 = .ok (.iconst 1, 1) := by decide +kernel
theorem d_L_waits_16 : decode b_L_waits 16 = .ok (.ireturn, 1) := by decide +kernel
theorem d_L_waits_17 : decode b_L_waits 17 = .ok (.iconst 0, 1) := by decide +kernel
theorem d_L_waits_18 : decode b_L_waits 18 = .ok (.ireturn, 1) := by decide +kernel
