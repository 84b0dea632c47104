theorem d_M_steps_189 : decode b_M_steps 189 = .ok (.iload_n 3, 1) := by decide +kernel
theorem d_M_steps_190 : decode b_M_steps 190 = .ok (.ifCond .ne 7, 3) := by decide +kernel
theorem d_M_steps_193 : decode b_M_steps 193 = .ok (.iconst 1, 1) := by decide +kernel
theorem d_M_steps_194 : decode b_M_steps 194 = .ok (.goto 4, 3) := by decide +kernel
theorem d_M_steps_197 : decode b_M_steps 197 = .ok (.iconst 0, 1) := by decide +kernel
theorem d_M_steps_198 : decode b_M_steps 198 = .ok (.ireturn, 1) := by decide +kernel
theorem d_M_turn_0 : decode b_M_turn 0 = .ok (.aload_n 0, 1) := by decide +kernel
theorem d_M_turn_1 : decode b_M_turn 1 = .ok (.iload_n 1, 1) := by decide +kernel
theorem d_M_turn_2 : decode b_M_turn 2 = .ok (.invokevirtual 68, 3) := by decide +kernel
theorem d_M_turn_5 : decode b_M_turn 5 = .ok (.ifCond .ne 9, 3) := by decide +kernel
theorem d_M_turn_8 : decode b_M_turn 8 = .ok (.aload_n 0, 1) := by decide +kernel
theorem d_M_turn_9 : decode b_M_turn 9 = .ok (.iconst 1, 1) := by decide +kernel
theorem d_M_turn_10 : decode b_M_turn 10 = .ok (.invokevirtual 57, 3) := by decide +kernel
theorem d_M_turn_13 : decode b_M_turn 13 = .ok (.ireturn, 1) := by decide +kernel
theorem d_M_turn_14 : decode b_M_turn 14 = .ok (.aload_n 0, 1) := by decide +kernel
theorem d_M_turn_15 : decode b_M_turn 15 = .ok (.getfield 104, 3) := by decide +kernel
theorem d_M_turn_18 : decode b_M_turn 18 = .ok (.sipush 300, 3) := by decide +kernel
theorem d_M_turn_21 : decode b_M_turn 21 = .ok (.if_icmp .eq 10, 3) := by decide +kernel
theorem d_M_turn_24 : decode b_M_turn 24 = .ok (.aload_n 0, 1) := by decide +kernel
theorem d_M_turn_25 : decode b_M_turn 25 = .ok (.getfield 61, 3) := by decide +kernel
theorem d_M_turn_28 : decode b_M_turn 28 = .ok (.ifCond .eq 9, 3) := by decide +kernel
theorem d_M_turn_31 : decode b_M_turn 31 = .ok (.aload_n 0, 1) := by decide +kernel
theorem d_M_turn_32 : decode b_M_turn 32 = .ok (.iconst 2, 1) := by decide +kernel
theorem d_M_turn_33 : decode b_M_turn 33 = .ok (.invokevirtual 57, 3) := by decide +kernel
theorem d_M_turn_36 : decode b_M_turn 36 = .ok (.ireturn, 1) := by decide +kernel
theorem d_M_turn_37 : decode b_M_turn 37 = .ok (.aload_n 0, 1) := by decide +kernel
theorem d_M_turn_38 : decode b_M_turn 38 = .ok (.iconst 0, 1) := by decide +kernel
theorem d_M_turn_39 : decode b_M_turn 39 = .ok (.putfield 46, 3) := by decide +kernel
theorem d_M_turn_42 : decode b_M_turn 42 = .ok (.aload_n 0, 1) := by decide +kernel
theorem d_M_turn_43 : decode b_M_turn 43 = .ok (.getfield 40, 3) := by decide +kernel
theorem d_M_turn_46 : decode b_M_turn 46 = .ok (.aload_n 0, 1) := by decide +kernel
theorem d_M_turn_47 : decode b_M_turn 47 = .ok (.getfield 104, 3) := by decide +kernel
theorem d_M_turn_50 : decode b_M_turn 50 = .ok (.iload_n 1, 1) := by decide +kernel
theorem d_M_turn_51 : decode b_M_turn 51 = .ok (.iastore, 1) := by decide +kernel
theorem d_M_turn_52 : decode b_M_turn 52 = .ok (.aload_n 0, 1) := by decide +kernel
theorem d_M_turn_53 : decode b_M_turn 53 = .ok (.dup, 1) := by decide +kernel
theorem d_M_turn_54 : decode b_M_turn 54 = .ok (.getfield 104, 3) := by decide +kernel
theorem d_M_turn_57 : decode b_M_turn 57 = .ok (.iconst 1, 1) := by decide +kernel
theorem d_M_turn_58 : decode b_M_turn 58 = .ok (.iadd, 1) := by decide +kernel
theorem d_M_turn_59 : decode b_M_turn 59 = .ok (.putfield 104, 3) := by decide +kernel
theorem d_M_turn_62 : decode b_M_turn 62 = .ok (.aload_n 0, 1) := by decide +kernel
theorem d_M_turn_63 : decode b_M_turn 63 = .ok (.getfield 104, 3) := by decide +kernel
theorem d_M_turn_66 : decode b_M_turn 66 = .ok (.aload_n 0, 1) := by decide +kernel
theorem d_M_turn_67 : decode b_M_turn 67 = .ok (.getfield 107, 3) := by decide +kernel
theorem d_M_turn_70 : decode b_M_turn 70 = .ok (.isub, 1) := by decide +kernel
theorem d_M_turn_71 : decode b_M_turn 71 = .ok (.ireturn, 1) := by decide +kernel
theorem d_M_run_0 : decode b_M_run 0 = .ok (.aload_n 0, 1) := by decide +kernel
theorem d_M_run_1 : decode b_M_run 1 = .ok (.getfield 61, 3) := by decide +kernel
theorem d_M_run_4 : decode b_M_run 4 = .ok (.ifCond .eq 9, 3) := by decide +kernel
theorem d_M_run_7 : decode b_M_run 7 = .ok (.aload_n 0, 1) := by decide +kernel
theorem d_M_run_8 : decode b_M_run 8 = .ok (.iconst 1, 1) := by decide +kernel
theorem d_M_run_9 : decode b_M_run 9 = .ok (.invokevirtual 57, 3) := by decide +kernel
theorem d_M_run_12 : decode b_M_run 12 = .ok (.ireturn, 1) := by decide +kernel
theorem d_M_run_13 : decode b_M_run 13 = .ok (.aload_n 0, 1) := by decide +kernel
theorem d_M_run_14 : decode b_M_run 14 = .ok (.iconst 0, 1) := by decide +kernel
theorem d_M_run_15 : decode b_M_run 15 = .ok (.putfield 46, 3) := by decide +kernel
theorem d_M_run_18 : decode b_M_run 18 = .ok (.iconst 0, 1) := by decide +kernel
theorem d_M_run_19 : decode b_M_run 19 = .ok (.istore_n 1, 1) := by decide +kernel
theorem d_M_run_20 : decode b_M_run 20 = .ok (.aload_n 0, 1) := by decide +kernel
theorem d_M_run_21 : decode b_M_run 21 = .ok (.getfield 107, 3) := by decide +kernel
theorem d_M_run_24 : decode b_M_run 24 = .ok (.aload_n 0, 1) := by decide +kernel
theorem d_M_run_25 : decode b_M_run 25 = .ok (.getfield 104, 3) := by decide +kernel
theorem d_M_run_28 : decode b_M_run 28 = .ok (.if_icmp .ge 64, 3) := by decide +kernel
theorem d_M_run_31 : decode b_M_run 31 = .ok (.aload_n 0, 1) := by decide +kernel
theorem d_M_run_32 : decode b_M_run 32 = .ok (.getfield 40, 3) := by decide +kernel
theorem d_M_run_35 : decode b_M_run 35 = .ok (.aload_n 0, 1) := by decide +kernel
theorem d_M_run_36 : decode b_M_run 36 = .ok (.getfield 107, 3) := by decide +kernel
theorem d_M_run_39 : decode b_M_run 39 = .ok (.iaload, 1) := by decide +kernel
theorem d_M_run_40 : decode b_M_run 40 = .ok (.istore_n 2, 1) := by decide +kernel
theorem d_M_run_41 : decode b_M_run 41 = .ok (.aload_n 0, 1) := by decide +kernel
theorem d_M_run_42 : decode b_M_run 42 = .ok (.dup, 1) := by decide +kernel
theorem d_M_run_43 : decode b_M_run 43 = .ok (.getfield 107, 3) := by decide +kernel
theorem d_M_run_46 : decode b_M_run 46 = .ok (.iconst 1, 1) := by decide +kernel
theorem d_M_run_47 : decode b_M_run 47 = .ok (.iadd, 1) := by decide +kernel
theorem d_M_run_48 : decode b_M_run 48 = .ok (.putfield 107, 3) := by decide +kernel
theorem d_M_run_51 : decode b_M_run 51 = .ok (.aload_n 0, 1) := by decide +kernel
theorem d_M_run_52 : decode b_M_run 52 = .ok (.getfield 22, 3) := by decide +kernel
theorem d_M_run_55 : decode b_M_run 55 = .ok (.iload_n 2, 1) := by decide +kernel
theorem d_M_run_56 : decode b_M_run 56 = .ok (.iaload, 1) := by decide +kernel
theorem d_M_run_57 : decode b_M_run 57 = .ok (.ifCond .eq 16, 3) := by decide +kernel
theorem d_M_run_60 : decode b_M_run 60 = .ok (.aload_n 0, 1) := by decide +kernel
theorem d_M_run_61 : decode b_M_run 61 = .ok (.dup, 1) := by decide +kernel
theorem d_M_run_62 : decode b_M_run 62 = .ok (.getfield 110, 3) := by decide +kernel
theorem d_M_run_65 : decode b_M_run 65 = .ok (.iconst 1, 1) := by decide +kernel
theorem d_M_run_66 : decode b_M_run 66 = .ok (.iadd, 1) := by decide +kernel
theorem d_M_run_67 : decode b_M_run 67 = .ok (.putfield 110, 3) := by decide +kernel
theorem d_M_run_70 : decode b_M_run 70 = .ok (.goto 19, 3) := by decide +kernel
theorem d_M_run_73 : decode b_M_run 73 = .ok (.iload_n 1, 1) := by decide +kernel
theorem d_M_run_74 : decode b_M_run 74 = .ok (.aload_n 0, 1) := by decide +kernel
theorem d_M_run_75 : decode b_M_run 75 = .ok (.iload_n 2, 1) := by decide +kernel
theorem d_M_run_76 : decode b_M_run 76 = .ok (.invokevirtual 113, 3) := by decide +kernel
theorem d_M_run_79 : decode b_M_run 79 = .ok (.ifCond .eq 7, 3) := by decide +kernel
theorem d_M_run_82 : decode b_M_run 82 = .ok (.iconst 1, 1) := by decide +kernel
theorem d_M_run_83 : decode b_M_run 83 = .ok (.goto 4, 3) := by decide +kernel
theorem d_M_run_86 : decode b_M_run 86 = .ok (.iconst 0, 1) := by decide +kernel
theorem d_M_run_87 : decode b_M_run 87 = .ok (.iadd, 1) := by decide +kernel
theorem d_M_run_88 : decode b_M_run 88 = .ok (.istore_n 1, 1) := by decide +kernel
theorem d_M_run_89 : decode b_M_run 89 = .ok (.goto (-69), 3) := by decide +kernel
theorem d_M_run_92 : decode b_M_run 92 = .ok (.iload_n 1, 1) := by decide +kernel
theorem d_M_run_93 : decode b_M_run 93 = .ok (.ireturn, 1) := by decide +kernel
theorem d_M_log_0 : decode b_M_log 0 = .ok (.aload_n 0, 1) := by decide +kernel
theorem d_M_log_1 : decode b_M_log 1 = .ok (.iconst 0, 1) := by decide +kernel
theorem d_M_log_2 : decode b_M_log 2 = .ok (.putfield 46, 3) := by decide +kernel
theorem d_M_log_5 : decode b_M_log 5 = .ok (.iload_n 1, 1) := by decide +kernel
theorem d_M_log_6 : decode b_M_log 6 = .ok (.ifCond .lt 20, 3) := by decide +kernel
theorem d_M_log_9 : decode b_M_log 9 = .ok (.iload_n 1, 1) := by decide +kernel
theorem d_M_log_10 : decode b_M_log 10 = .ok (.aload_n 0, 1) := by decide +kernel
theorem d_M_log_11 : decode b_M_log 11 = .ok (.getfield 78, 3) := by decide +kernel
theorem d_M_log_14 : decode b_M_log 14 = .ok (.if_icmp .ge 12, 3) := by decide +kernel
theorem d_M_log_17 : decode b_M_log 17 = .ok (.aload_n 0, 1) := by decide +kernel
theorem d_M_log_18 : decode b_M_log 18 = .ok (.getfield 43, 3) := by decide +kernel
theorem d_M_log_21 : decode b_M_log 21 = .ok (.iload_n 1, 1) := by decide +kernel
theorem d_M_log_22 : decode b_M_log 22 = .ok (.iaload, 1) := by decide +kernel
theorem d_M_log_23 : decode b_M_log 23 = .ok (.goto 4, 3) := by decide +kernel
theorem d_M_log_26 : decode b_M_log 26 = .ok (.iconst (-1), 1) := by decide +kernel
theorem d_M_log_27 : decode b_M_log 27 = .ok (.ireturn, 1) := by decide +kernel
theorem d_M_holder_0 : decode b_M_holder 0 = .ok (.aload_n 0, 1) := by decide +kernel
theorem d_M_holder_1 : decode b_M_holder 1 = .ok (.iload_n 1, 1) := by decide +kernel
theorem d_M_holder_2 : decode b_M_holder 2 = .ok (.invokestatic 72, 3) := by decide +kernel
theorem d_M_holder_5 : decode b_M_holder 5 = .ok (.ifCond .eq 7, 3) := by decide +kernel
theorem d_M_holder_8 : decode b_M_holder 8 = .ok (.iconst 0, 1) := by decide +kernel
theorem d_M_holder_9 : decode b_M_holder 9 = .ok (.goto 4, 3) := by decide +kernel
theorem d_M_holder_12 : decode b_M_holder 12 = .ok (.iconst 1, 1) := by decide +kernel
theorem d_M_holder_13 : decode b_M_holder 13 = .ok (.putfield 46, 3) := by decide +kernel
theorem d_M_holder_16 : decode b_M_holder 16 = .ok (.aload_n 0, 1) := by decide +kernel
theorem d_M_holder_17 : decode b_M_holder 17 = .ok (.getfield 46, 3) := by decide +kernel
theorem d_M_holder_20 : decode b_M_holder 20 = .ok (.ifCond .le 7, 3) := by decide +kernel
theorem d_M_holder_23 : decode b_M_holder 23 = .ok (.iconst 0, 1) := by decide +kernel
theorem d_M_holder_24 : decode b_M_holder 24 = .ok (.goto 9, 3) := by decide +kernel
theorem d_M_holder_27 : decode b_M_holder 27 = .ok (.aload_n 0, 1) := by decide +kernel
theorem d_M_holder_28 : decode b_M_holder 28 = .ok (.getfield 28, 3) := by decide +kernel
theorem d_M_holder_31 : decode b_M_holder 31 = .ok (.iload_n 1, 1) := by decide +kernel
theorem d_M_holder_32 : decode b_M_holder 32 = .ok (.iaload, 1) := by decide +kernel
theorem d_M_holder_33 : decode b_M_holder 33 = .ok (.ireturn, 1) := by decide +kernel
theorem d_M_waits_0 : decode b_M_waits 0 = .ok (.aload_n 0, 1) := by decide +kernel
theorem d_M_waits_1 : decode b_M_waits 1 = .ok (.iload_n 1, 1) := by decide +kernel
theorem d_M_waits_2 : decode b_M_waits 2 = .ok (.invokestatic 72, 3) := by decide +kernel
theorem d_M_waits_5 : decode b_M_waits 5 = .ok (.ifCond .eq 7, 3) := by decide +kernel
theorem d_M_waits_8 : decode b_M_waits 8 = .ok (.iconst 0, 1) := by decide +kernel
theorem d_M_waits_9 : decode b_M_waits 9 = .ok (.goto 4, 3) := by decide +kernel
theorem d_M_waits_12 : decode b_M_waits 12 = .ok (.iconst 1, 1) := by decide +kernel
theorem d_M_waits_13 : decode b_M_waits 13 = .ok (.putfield 46, 3) := by decide +kernel
theorem d_M_waits_16 : decode b_M_waits 16 = .ok (.aload_n 0, 1) := by decide +kernel
theorem d_M_waits_17 : decode b_M_waits 17 = .ok (.getfield 46, 3) := by decide +kernel
theorem d_M_waits_20 : decode b_M_waits 20 = .ok (.ifCond .le 5, 3) := by decide +kernel
theorem d_M_waits_23 : decode b_M_waits 23 = .ok (.iconst 0, 1) := by decide +kernel
theorem d_M_waits_24 : decode b_M_waits 24 = .ok (.ireturn, 1) := by decide +kernel
theorem d_M_waits_25 : decode b_M_waits 25 = .ok (.iconst 0, 1) := by decide +kernel
theorem d_M_waits_26 : decode b_M_waits 26 = .ok (.istore_n 3, 1) := by decide +kernel
theorem d_M_waits_27 : decode b_M_waits 27 = .ok (.iload_n 3, 1) := by decide +kernel
theorem d_M_waits_28 : decode b_M_waits 28 = .ok (.aload_n 0, 1) := by decide +kernel
theorem d_M_waits_29 : decode b_M_waits 29 = .ok (.getfield 50, 3) := by decide +kernel
theorem d_M_waits_32 : decode b_M_waits 32 = .ok (.if_icmp .ge 85, 3) := by decide +kernel
theorem d_M_waits_35 : decode b_M_waits 35 = .ok (.iconst 0, 1) := by decide +kernel
theorem d_M_waits_36 : decode b_M_waits 36 = .ok (.istore 4, 2) := by decide +kernel
theorem d_M_waits_38 : decode b_M_waits 38 = .ok (.iconst 0, 1) := by decide +kernel
theorem d_M_waits_39 : decode b_M_waits 39 = .ok (.istore 5, 2) := by decide +kernel
theorem d_M_waits_41 : decode b_M_waits 41 = .ok (.iload 5, 2) := by decide +kernel
theorem d_M_waits_43 : decode b_M_waits 43 = .ok (.aload_n 0, 1) := by decide +kernel
theorem d_M_waits_44 : decode b_M_waits 44 = .ok (.getfield 50, 3) := by decide +kernel
theorem d_M_waits_47 : decode b_M_waits 47 = .ok (.if_icmp .ge 46, 3) := by decide +kernel
theorem d_M_waits_50 : decode b_M_waits 50 = .ok (.iload 4, 2) := by decide +kernel
theorem d_M_waits_52 : decode b_M_waits 52 = .ok (.aload_n 0, 1) := by decide +kernel
theorem d_M_waits_53 : decode b_M_waits 53 = .ok (.getfield 34, 3) := by decide +kernel
theorem d_M_waits_56 : decode b_M_waits 56 = .ok (.iload 5, 2) := by decide +kernel
theorem d_M_waits_58 : decode b_M_waits 58 = .ok (.iaload, 1) := by decide +kernel
theorem d_M_waits_59 : decode b_M_waits 59 = .ok (.iload_n 1, 1) := by decide +kernel
theorem d_M_waits_60 : decode b_M_waits 60 = .ok (.if_icmp .ne 23, 3) := by decide +kernel
theorem d_M_waits_63 : decode b_M_waits 63 = .ok (.aload_n 0, 1) := by decide +kernel
theorem d_M_waits_64 : decode b_M_waits 64 = .ok (.getfield 37, 3) := by decide +kernel
theorem d_M_waits_67 : decode b_M_waits 67 = .ok (.iload 5, 2) := by decide +kernel
theorem d_M_waits_69 : decode b_M_waits 69 = .ok (.iaload, 1) := by decide +kernel
theorem d_M_waits_70 : decode b_M_waits 70 = .ok (.aload_n 0, 1) := by decide +kernel
theorem d_M_waits_71 : decode b_M_waits 71 = .ok (.getfield 37, 3) := by decide +kernel
theorem d_M_waits_74 : decode b_M_waits 74 = .ok (.iload_n 3, 1) := by decide +kernel
theorem d_M_waits_75 : decode b_M_waits 75 = .ok (.iaload, 1) := by decide +kernel
theorem d_M_waits_76 : decode b_M_waits 76 = .ok (.if_icmp .ge 7, 3) := by decide +kernel
theorem d_M_waits_79 : decode b_M_waits 79 = .ok (.iconst 1, 1) := by decide +kernel
theorem d_M_waits_80 : decode b_M_waits 80 = .ok (.goto 4, 3) := by decide +kernel
theorem d_M_waits_83 : decode b_M_waits 83 = .ok (.iconst 0, 1) := by decide +kernel
theorem d_M_waits_84 : decode b_M_waits 84 = .ok (.iadd, 1) := by decide +kernel
theorem d_M_waits_85 : decode b_M_waits 85 = .ok (.istore 4, 2) := by decide +kernel
theorem d_M_waits_87 : decode b_M_waits 87 = .ok (.iinc 5 1, 3) := by decide +kernel
theorem d_M_waits_90 : decode b_M_waits 90 = .ok (.goto (-49), 3) := by decide +kernel
theorem d_M_waits_93 : decode b_M_waits 93 = .ok (.aload_n 0, 1) := by decide +kernel
theorem d_M_waits_94 : decode b_M_waits 94 = .ok (.getfield 34, 3) := by decide +kernel
theorem d_M_waits_97 : decode b_M_waits 97 = .ok (.iload_n 3, 1) := by decide +kernel
theorem d_M_waits_98 : decode b_M_waits 98 = .ok (.iaload, 1) := by decide +kernel
theorem d_M_waits_99 : decode b_M_waits 99 = .ok (.iload_n 1, 1) := by decide +kernel
theorem d_M_waits_100 : decode b_M_waits 100 = .ok (.if_icmp .ne 11, 3) := by decide +kernel
theorem d_M_waits_103 : decode b_M_waits 103 = .ok (.iload 4, 2) := by decide +kernel
theorem d_M_waits_105 : decode b_M_waits 105 = .ok (.iload_n 2, 1) := by decide +kernel
theorem d_M_waits_106 : decode b_M_waits 106 = .ok (.if_icmp .ne 5, 3) := by decide +kernel
theorem d_M_waits_109 : decode b_M_waits 109 = .ok (.iload_n 3, 1) := by decide +kernel
theorem d_M_waits_110 : decode b_M_waits 110 = .ok (.ireturn, 1) := by decide +kernel
theorem d_M_waits_111 : decode b_M_waits 111 = .ok (.iinc 3 1, 3) := by decide +kernel
theorem d_M_waits_114 : decode b_M_waits 114 = .ok (.goto (-87), 3) := by decide +kernel
theorem d_M_waits_117 : decode b_M_waits 117 = .ok (.iconst (-1), 1) := by decide +kernel
theorem d_M_waits_118 : decode b_M_waits 118 = .ok (.ireturn, 1) := by decide +kernel
theorem d_M_interrupt_0 : decode b_M_interrupt 0 = .ok (.aload_n 0, 1) := by decide +kernel
theorem d_M_interrupt_1 : decode b_M_interrupt 1 = .ok (.iconst 0, 1) := by decide +kernel
theorem d_M_interrupt_2 : decode b_M_interrupt 2 = .ok (.putfield 46, 3) := by decide +kernel
theorem d_M_interrupt_5 : decode b_M_interrupt 5 = .ok (.aload_n 0, 1) := by decide +kernel
theorem d_M_interrupt_6 : decode b_M_interrupt 6 = .ok (.iload_n 1, 1) := by decide +kernel
theorem d_M_interrupt_7 : decode b_M_interrupt 7 = .ok (.invokevirtual 68, 3) := by decide +kernel
theorem d_M_interrupt_10 : decode b_M_interrupt 10 = .ok (.ifCond .eq 13, 3) := by decide +kernel
theorem d_M_interrupt_13 : decode b_M_interrupt 13 = .ok (.aload_n 0, 1) := by decide +kernel
theorem d_M_interrupt_14 : decode b_M_interrupt 14 = .ok (.getfield 22, 3) := by decide +kernel
theorem d_M_interrupt_17 : decode b_M_interrupt 17 = .ok (.iload_n 1, 1) := by decide +kernel
theorem d_M_interrupt_18 : decode b_M_interrupt 18 = .ok (.iaload, 1) := by decide +kernel
theorem d_M_interrupt_19 : decode b_M_interrupt 19 = .ok (.iconst 1, 1) := by decide +kernel
theorem d_M_interrupt_20 : decode b_M_interrupt 20 = .ok (.if_icmp .eq 5, 3) := by decide +kernel
theorem d_M_interrupt_23 : decode b_M_interrupt 23 = .ok (.iconst 0, 1) := by decide +kernel
theorem d_M_interrupt_24 : decode b_M_interrupt 24 = .ok (.ireturn, 1) := by decide +kernel
theorem d_M_interrupt_25 : decode b_M_interrupt 25 = .ok (.aload_n 0, 1) := by decide +kernel
theorem d_M_interrupt_26 : decode b_M_interrupt 26 = .ok (.getfield 34, 3) := by decide +kernel
theorem d_M_interrupt_29 : decode b_M_interrupt 29 = .ok (.iload_n 1, 1) := by decide +kernel
theorem d_M_interrupt_30 : decode b_M_interrupt 30 = .ok (.iconst (-1), 1) := by decide +kernel
theorem d_M_interrupt_31 : decode b_M_interrupt 31 = .ok (.iastore, 1) := by decide +kernel
theorem d_M_interrupt_32 : decode b_M_interrupt 32 = .ok (.aload_n 0, 1) := by decide +kernel
theorem d_M_interrupt_33 : decode b_M_interrupt 33 = .ok (.iconst 3, 1) := by decide +kernel
theorem d_M_interrupt_34 : decode b_M_interrupt 34 = .ok (.iload_n 1, 1) := by decide +kernel
theorem d_M_interrupt_35 : decode b_M_interrupt 35 = .ok (.invokevirtual 94, 3) := by decide +kernel
theorem d_M_interrupt_38 : decode b_M_interrupt 38 = .ok (.aload_n 0, 1) := by decide +kernel
theorem d_M_interrupt_39 : decode b_M_interrupt 39 = .ok (.iload_n 1, 1) := by decide +kernel
theorem d_M_interrupt_40 : decode b_M_interrupt 40 = .ok (.invokevirtual 98, 3) := by decide +kernel
theorem d_M_interrupt_43 : decode b_M_interrupt 43 = .ok (.aload_n 0, 1) := by decide +kernel
theorem d_M_interrupt_44 : decode b_M_interrupt 44 = .ok (.iload_n 1, 1) := by decide +kernel
theorem d_M_interrupt_45 : decode b_M_interrupt 45 = .ok (.invokevirtual 101, 3) := by decide +kernel
theorem d_M_interrupt_48 : decode b_M_interrupt 48 = .ok (.iconst 1, 1) := by decide +kernel
theorem d_M_interrupt_49 : decode b_M_interrupt 49 = .ok (.ireturn, 1) := by decide +kernel
theorem d_M_dead_0 : decode b_M_dead 0 = .ok (.aload_n 0, 1) := by decide +kernel
theorem d_M_dead_1 : decode b_M_dead 1 = .ok (.iload_n 1, 1) := by decide +kernel
theorem d_M_dead_2 : decode b_M_dead 2 = .ok (.invokevirtual 68, 3) := by decide +kernel
theorem d_M_dead_5 : decode b_M_dead 5 = .ok (.ifCond .ne 9, 3) := by decide +kernel
theorem d_M_dead_8 : decode b_M_dead 8 = .ok (.aload_n 0, 1) := by decide +kernel
theorem d_M_dead_9 : decode b_M_dead 9 = .ok (.iconst 1, 1) := by decide +kernel
theorem d_M_dead_10 : decode b_M_dead 10 = .ok (.invokevirtual 57, 3) := by decide +kernel
theorem d_M_dead_13 : decode b_M_dead 13 = .ok (.ireturn, 1) := by decide +kernel
theorem d_M_dead_14 : decode b_M_dead 14 = .ok (.aload_n 0, 1) := by decide +kernel
theorem d_M_dead_15 : decode b_M_dead 15 = .ok (.iconst 0, 1) := by decide +kernel
theorem d_M_dead_16 : decode b_M_dead 16 = .ok (.putfield 46, 3) := by decide +kernel
theorem d_M_dead_19 : decode b_M_dead 19 = .ok (.aload_n 0, 1) := by decide +kernel
theorem d_M_dead_20 : decode b_M_dead 20 = .ok (.getfield 22, 3) := by decide +kernel
theorem d_M_dead_23 : decode b_M_dead 23 = .ok (.iload_n 1, 1) := by decide +kernel
theorem d_M_dead_24 : decode b_M_dead 24 = .ok (.iaload, 1) := by decide +kernel
theorem d_M_dead_25 : decode b_M_dead 25 = .ok (.iconst 1, 1) := by decide +kernel
theorem d_M_dead_26 : decode b_M_dead 26 = .ok (.if_icmp .le 5, 3) := by decide +kernel
theorem d_M_dead_29 : decode b_M_dead 29 = .ok (.iconst (-1), 1) := by decide +kernel
theorem d_M_dead_30 : decode b_M_dead 30 = .ok (.ireturn, 1) := by decide +kernel
theorem d_M_dead_31 : decode b_M_dead 31 = .ok (.aload_n 0, 1) := by decide +kernel
theorem d_M_dead_32 : decode b_M_dead 32 = .ok (.getfield 22, 3) := by decide +kernel
theorem d_M_dead_35 : decode b_M_dead 35 = .ok (.iload_n 1, 1) := by decide +kernel
theorem d_M_dead_36 : decode b_M_dead 36 = .ok (.iconst 3, 1) := by decide +kernel
theorem d_M_dead_37 : decode b_M_dead 37 = .ok (.iastore, 1) := by decide +kernel
theorem d_M_dead_38 : decode b_M_dead 38 = .ok (.aload_n 0, 1) := by decide +kernel
theorem d_M_dead_39 : decode b_M_dead 39 = .ok (.getfield 34, 3) := by decide +kernel
theorem d_M_dead_42 : decode b_M_dead 42 = .ok (.iload_n 1, 1) := by decide +kernel
theorem d_M_dead_43 : decode b_M_dead 43 = .ok (.iconst (-1), 1) := by decide +kernel
theorem d_M_dead_44 : decode b_M_dead 44 = .ok (.iastore, 1) := by decide +kernel
theorem d_M_dead_45 : decode b_M_dead 45 = .ok (.aload_n 0, 1) := by decide +kernel
theorem d_M_dead_46 : decode b_M_dead 46 = .ok (.iload_n 1, 1) := by decide +kernel
theorem d_M_dead_47 : decode b_M_dead 47 = .ok (.invokevirtual 65, 3) := by decide +kernel
theorem d_M_dead_50 : decode b_M_dead 50 = .ok (.invokestatic 116, 3) := by decide +kernel
theorem d_M_dead_53 : decode b_M_dead 53 = .ok (.ireturn, 1) := by decide +kernel
