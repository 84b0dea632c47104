theorem d_M_needs_101 : decode b_M_needs 101 = .ok (.iload_n 1, 1) := by decide +kernel
theorem d_M_needs_102 : decode b_M_needs 102 = .ok (.invokevirtual 75, 3) := by decide +kernel
theorem d_M_needs_105 : decode b_M_needs 105 = .ok (.ifCond .eq 5, 3) := by decide +kernel
theorem d_M_needs_108 : decode b_M_needs 108 = .ok (.iconst 0, 1) := by decide +kernel
theorem d_M_needs_109 : decode b_M_needs 109 = .ok (.ireturn, 1) := by decide +kernel
theorem d_M_needs_110 : decode b_M_needs 110 = .ok (.aload_n 0, 1) := by decide +kernel
theorem d_M_needs_111 : decode b_M_needs 111 = .ok (.getfield 25, 3) := by decide +kernel
theorem d_M_needs_114 : decode b_M_needs 114 = .ok (.iload 4, 2) := by decide +kernel
theorem d_M_needs_116 : decode b_M_needs 116 = .ok (.dup2, 1) := by decide +kernel
theorem d_M_needs_117 : decode b_M_needs 117 = .ok (.iaload, 1) := by decide +kernel
theorem d_M_needs_118 : decode b_M_needs 118 = .ok (.iconst 1, 1) := by decide +kernel
theorem d_M_needs_119 : decode b_M_needs 119 = .ok (.iload_n 3, 1) := by decide +kernel
theorem d_M_needs_120 : decode b_M_needs 120 = .ok (.ishl, 1) := by decide +kernel
theorem d_M_needs_121 : decode b_M_needs 121 = .ok (.ior, 1) := by decide +kernel
theorem d_M_needs_122 : decode b_M_needs 122 = .ok (.iastore, 1) := by decide +kernel
theorem d_M_needs_123 : decode b_M_needs 123 = .ok (.iconst 1, 1) := by decide +kernel
theorem d_M_needs_124 : decode b_M_needs 124 = .ok (.ireturn, 1) := by decide +kernel
theorem d_M_write_0 : decode b_M_write 0 = .ok (.aload_n 0, 1) := by decide +kernel
theorem d_M_write_1 : decode b_M_write 1 = .ok (.getfield 78, 3) := by decide +kernel
theorem d_M_write_4 : decode b_M_write 4 = .ok (.sipush 400, 3) := by decide +kernel
theorem d_M_write_7 : decode b_M_write 7 = .ok (.if_icmp .ge 39, 3) := by decide +kernel
theorem d_M_write_10 : decode b_M_write 10 = .ok (.aload_n 0, 1) := by decide +kernel
theorem d_M_write_11 : decode b_M_write 11 = .ok (.getfield 43, 3) := by decide +kernel
theorem d_M_write_14 : decode b_M_write 14 = .ok (.aload_n 0, 1) := by decide +kernel
theorem d_M_write_15 : decode b_M_write 15 = .ok (.getfield 78, 3) := by decide +kernel
theorem d_M_write_18 : decode b_M_write 18 = .ok (.sipush 1000, 3) := by decide +kernel
theorem d_M_write_21 : decode b_M_write 21 = .ok (.iload_n 1, 1) := by decide +kernel
theorem d_M_write_22 : decode b_M_write 22 = .ok (.imul, 1) := by decide +kernel
theorem d_M_write_23 : decode b_M_write 23 = .ok (.bipush 100, 2) := by decide +kernel
theorem d_M_write_25 : decode b_M_write 25 = .ok (.iload_n 2, 1) := by decide +kernel
theorem d_M_write_26 : decode b_M_write 26 = .ok (.imul, 1) := by decide +kernel
theorem d_M_write_27 : decode b_M_write 27 = .ok (.iadd, 1) := by decide +kernel
theorem d_M_write_28 : decode b_M_write 28 = .ok (.aload_n 0, 1) := by decide +kernel
theorem d_M_write_29 : decode b_M_write 29 = .ok (.getfield 16, 3) := by decide +kernel
theorem d_M_write_32 : decode b_M_write 32 = .ok (.iload_n 2, 1) := by decide +kernel
theorem d_M_write_33 : decode b_M_write 33 = .ok (.iaload, 1) := by decide +kernel
theorem d_M_write_34 : decode b_M_write 34 = .ok (.iadd, 1) := by decide +kernel
theorem d_M_write_35 : decode b_M_write 35 = .ok (.iastore, 1) := by decide +kernel
theorem d_M_write_36 : decode b_M_write 36 = .ok (.aload_n 0, 1) := by decide +kernel
theorem d_M_write_37 : decode b_M_write 37 = .ok (.dup, 1) := by decide +kernel
theorem d_M_write_38 : decode b_M_write 38 = .ok (.getfield 78, 3) := by decide +kernel
theorem d_M_write_41 : decode b_M_write 41 = .ok (.iconst 1, 1) := by decide +kernel
theorem d_M_write_42 : decode b_M_write 42 = .ok (.iadd, 1) := by decide +kernel
theorem d_M_write_43 : decode b_M_write 43 = .ok (.putfield 78, 3) := by decide +kernel
theorem d_M_write_46 : decode b_M_write 46 = .ok (.return_, 1) := by decide +kernel
theorem d_M_first_0 : decode b_M_first 0 = .ok (.iconst (-1), 1) := by decide +kernel
theorem d_M_first_1 : decode b_M_first 1 = .ok (.istore_n 2, 1) := by decide +kernel
theorem d_M_first_2 : decode b_M_first 2 = .ok (.iconst 0, 1) := by decide +kernel
theorem d_M_first_3 : decode b_M_first 3 = .ok (.istore_n 3, 1) := by decide +kernel
theorem d_M_first_4 : decode b_M_first 4 = .ok (.iload_n 3, 1) := by decide +kernel
theorem d_M_first_5 : decode b_M_first 5 = .ok (.aload_n 0, 1) := by decide +kernel
theorem d_M_first_6 : decode b_M_first 6 = .ok (.getfield 50, 3) := by decide +kernel
theorem d_M_first_9 : decode b_M_first 9 = .ok (.if_icmp .ge 52, 3) := by decide +kernel
theorem d_M_first_12 : decode b_M_first 12 = .ok (.aload_n 0, 1) := by decide +kernel
theorem d_M_first_13 : decode b_M_first 13 = .ok (.getfield 34, 3) := by decide +kernel
theorem d_M_first_16 : decode b_M_first 16 = .ok (.iload_n 3, 1) := by decide +kernel
theorem d_M_first_17 : decode b_M_first 17 = .ok (.iaload, 1) := by decide +kernel
theorem d_M_first_18 : decode b_M_first 18 = .ok (.iload_n 1, 1) := by decide +kernel
theorem d_M_first_19 : decode b_M_first 19 = .ok (.if_icmp .ne 34, 3) := by decide +kernel
theorem d_M_first_22 : decode b_M_first 22 = .ok (.iload_n 2, 1) := by decide +kernel
theorem d_M_first_23 : decode b_M_first 23 = .ok (.ifCond .lt 26, 3) := by decide +kernel
theorem d_M_first_26 : decode b_M_first 26 = .ok (.aload_n 0, 1) := by decide +kernel
theorem d_M_first_27 : decode b_M_first 27 = .ok (.getfield 37, 3) := by decide +kernel
theorem d_M_first_30 : decode b_M_first 30 = .ok (.iload_n 3, 1) := by decide +kernel
theorem d_M_first_31 : decode b_M_first 31 = .ok (.iaload, 1) := by decide +kernel
theorem d_M_first_32 : decode b_M_first 32 = .ok (.aload_n 0, 1) := by decide +kernel
theorem d_M_first_33 : decode b_M_first 33 = .ok (.getfield 37, 3) := by decide +kernel
theorem d_M_first_36 : decode b_M_first 36 = .ok (.iload_n 2, 1) := by decide +kernel
theorem d_M_first_37 : decode b_M_first 37 = .ok (.ifCond .ge 7, 3) := by decide +kernel
theorem d_M_first_40 : decode b_M_first 40 = .ok (.iload_n 3, 1) := by decide +kernel
theorem d_M_first_41 : decode b_M_first 41 = .ok (.goto 4, 3) := by decide +kernel
theorem d_M_first_44 : decode b_M_first 44 = .ok (.iload_n 2, 1) := by decide +kernel
theorem d_M_first_45 : decode b_M_first 45 = .ok (.iaload, 1) := by decide +kernel
theorem d_M_first_46 : decode b_M_first 46 = .ok (.if_icmp .ge 7, 3) := by decide +kernel
theorem d_M_first_49 : decode b_M_first 49 = .ok (.iload_n 3, 1) := by decide +kernel
theorem d_M_first_50 : decode b_M_first 50 = .ok (.goto 4, 3) := by decide +kernel
theorem d_M_first_53 : decode b_M_first 53 = .ok (.iload_n 2, 1) := by decide +kernel
theorem d_M_first_54 : decode b_M_first 54 = .ok (.istore_n 2, 1) := by decide +kernel
theorem d_M_first_55 : decode b_M_first 55 = .ok (.iinc 3 1, 3) := by decide +kernel
theorem d_M_first_58 : decode b_M_first 58 = .ok (.goto (-54), 3) := by decide +kernel
theorem d_M_first_61 : decode b_M_first 61 = .ok (.iload_n 2, 1) := by decide +kernel
theorem d_M_first_62 : decode b_M_first 62 = .ok (.ireturn, 1) := by decide +kernel
theorem d_M_giveBack_0 : decode b_M_giveBack 0 = .ok (.aload_n 0, 1) := by decide +kernel
theorem d_M_giveBack_1 : decode b_M_giveBack 1 = .ok (.iload_n 1, 1) := by decide +kernel
theorem d_M_giveBack_2 : decode b_M_giveBack 2 = .ok (.invokevirtual 81, 3) := by decide +kernel
theorem d_M_giveBack_5 : decode b_M_giveBack 5 = .ok (.istore_n 2, 1) := by decide +kernel
theorem d_M_giveBack_6 : decode b_M_giveBack 6 = .ok (.aload_n 0, 1) := by decide +kernel
theorem d_M_giveBack_7 : decode b_M_giveBack 7 = .ok (.getfield 28, 3) := by decide +kernel
theorem d_M_giveBack_10 : decode b_M_giveBack 10 = .ok (.iload_n 1, 1) := by decide +kernel
theorem d_M_giveBack_11 : decode b_M_giveBack 11 = .ok (.iload_n 2, 1) := by decide +kernel
theorem d_M_giveBack_12 : decode b_M_giveBack 12 = .ok (.iastore, 1) := by decide +kernel
theorem d_M_giveBack_13 : decode b_M_giveBack 13 = .ok (.aload_n 0, 1) := by decide +kernel
theorem d_M_giveBack_14 : decode b_M_giveBack 14 = .ok (.getfield 31, 3) := by decide +kernel
theorem d_M_giveBack_17 : decode b_M_giveBack 17 = .ok (.iload_n 1, 1) := by decide +kernel
theorem d_M_giveBack_18 : decode b_M_giveBack 18 = .ok (.aload_n 0, 1) := by decide +kernel
theorem d_M_giveBack_19 : decode b_M_giveBack 19 = .ok (.getfield 84, 3) := by decide +kernel
theorem d_M_giveBack_22 : decode b_M_giveBack 22 = .ok (.iastore, 1) := by decide +kernel
theorem d_M_giveBack_23 : decode b_M_giveBack 23 = .ok (.iload_n 2, 1) := by decide +kernel
theorem d_M_giveBack_24 : decode b_M_giveBack 24 = .ok (.ifCond .lt 17, 3) := by decide +kernel
theorem d_M_giveBack_27 : decode b_M_giveBack 27 = .ok (.aload_n 0, 1) := by decide +kernel
theorem d_M_giveBack_28 : decode b_M_giveBack 28 = .ok (.getfield 34, 3) := by decide +kernel
theorem d_M_giveBack_31 : decode b_M_giveBack 31 = .ok (.iload_n 2, 1) := by decide +kernel
theorem d_M_giveBack_32 : decode b_M_giveBack 32 = .ok (.iconst (-1), 1) := by decide +kernel
theorem d_M_giveBack_33 : decode b_M_giveBack 33 = .ok (.iastore, 1) := by decide +kernel
theorem d_M_giveBack_34 : decode b_M_giveBack 34 = .ok (.aload_n 0, 1) := by decide +kernel
theorem d_M_giveBack_35 : decode b_M_giveBack 35 = .ok (.getfield 22, 3) := by decide +kernel
theorem d_M_giveBack_38 : decode b_M_giveBack 38 = .ok (.iload_n 2, 1) := by decide +kernel
theorem d_M_giveBack_39 : decode b_M_giveBack 39 = .ok (.iconst 0, 1) := by decide +kernel
theorem d_M_giveBack_40 : decode b_M_giveBack 40 = .ok (.iastore, 1) := by decide +kernel
theorem d_M_giveBack_41 : decode b_M_giveBack 41 = .ok (.return_, 1) := by decide +kernel
theorem d_M_giveAll_0 : decode b_M_giveAll 0 = .ok (.aload_n 0, 1) := by decide +kernel
theorem d_M_giveAll_1 : decode b_M_giveAll 1 = .ok (.iload_n 1, 1) := by decide +kernel
theorem d_M_giveAll_2 : decode b_M_giveAll 2 = .ok (.invokevirtual 65, 3) := by decide +kernel
theorem d_M_giveAll_5 : decode b_M_giveAll 5 = .ok (.istore_n 2, 1) := by decide +kernel
theorem d_M_giveAll_6 : decode b_M_giveAll 6 = .ok (.iconst 0, 1) := by decide +kernel
theorem d_M_giveAll_7 : decode b_M_giveAll 7 = .ok (.istore_n 3, 1) := by decide +kernel
theorem d_M_giveAll_8 : decode b_M_giveAll 8 = .ok (.iload_n 3, 1) := by decide +kernel
theorem d_M_giveAll_9 : decode b_M_giveAll 9 = .ok (.bipush 16, 2) := by decide +kernel
theorem d_M_giveAll_11 : decode b_M_giveAll 11 = .ok (.if_icmp .ge 23, 3) := by decide +kernel
theorem d_M_giveAll_14 : decode b_M_giveAll 14 = .ok (.iload_n 2, 1) := by decide +kernel
theorem d_M_giveAll_15 : decode b_M_giveAll 15 = .ok (.iload_n 3, 1) := by decide +kernel
theorem d_M_giveAll_16 : decode b_M_giveAll 16 = .ok (.ishr, 1) := by decide +kernel
theorem d_M_giveAll_17 : decode b_M_giveAll 17 = .ok (.iconst 1, 1) := by decide +kernel
theorem d_M_giveAll_18 : decode b_M_giveAll 18 = .ok (.iand, 1) := by decide +kernel
theorem d_M_giveAll_19 : decode b_M_giveAll 19 = .ok (.iconst 1, 1) := by decide +kernel
theorem d_M_giveAll_20 : decode b_M_giveAll 20 = .ok (.if_icmp .ne 8, 3) := by decide +kernel
theorem d_M_giveAll_23 : decode b_M_giveAll 23 = .ok (.aload_n 0, 1) := by decide +kernel
theorem d_M_giveAll_24 : decode b_M_giveAll 24 = .ok (.iload_n 3, 1) := by decide +kernel
theorem d_M_giveAll_25 : decode b_M_giveAll 25 = .ok (.invokevirtual 87, 3) := by decide +kernel
theorem d_M_giveAll_28 : decode b_M_giveAll 28 = .ok (.iinc 3 1, 3) := by decide +kernel
theorem d_M_giveAll_31 : decode b_M_giveAll 31 = .ok (.goto (-23), 3) := by decide +kernel
theorem d_M_giveAll_34 : decode b_M_giveAll 34 = .ok (.return_, 1) := by decide +kernel
theorem d_M_goesOn_0 : decode b_M_goesOn 0 = .ok (.aload_n 0, 1) := by decide +kernel
theorem d_M_goesOn_1 : decode b_M_goesOn 1 = .ok (.getfield 16, 3) := by decide +kernel
theorem d_M_goesOn_4 : decode b_M_goesOn 4 = .ok (.iload_n 1, 1) := by decide +kernel
theorem d_M_goesOn_5 : decode b_M_goesOn 5 = .ok (.dup2, 1) := by decide +kernel
theorem d_M_goesOn_6 : decode b_M_goesOn 6 = .ok (.iaload, 1) := by decide +kernel
theorem d_M_goesOn_7 : decode b_M_goesOn 7 = .ok (.iconst 1, 1) := by decide +kernel
theorem d_M_goesOn_8 : decode b_M_goesOn 8 = .ok (.iadd, 1) := by decide +kernel
theorem d_M_goesOn_9 : decode b_M_goesOn 9 = .ok (.iastore, 1) := by decide +kernel
theorem d_M_goesOn_10 : decode b_M_goesOn 10 = .ok (.aload_n 0, 1) := by decide +kernel
theorem d_M_goesOn_11 : decode b_M_goesOn 11 = .ok (.getfield 22, 3) := by decide +kernel
theorem d_M_goesOn_14 : decode b_M_goesOn 14 = .ok (.iload_n 1, 1) := by decide +kernel
theorem d_M_goesOn_15 : decode b_M_goesOn 15 = .ok (.aload_n 0, 1) := by decide +kernel
theorem d_M_goesOn_16 : decode b_M_goesOn 16 = .ok (.getfield 16, 3) := by decide +kernel
theorem d_M_goesOn_19 : decode b_M_goesOn 19 = .ok (.iload_n 1, 1) := by decide +kernel
theorem d_M_goesOn_20 : decode b_M_goesOn 20 = .ok (.iaload, 1) := by decide +kernel
theorem d_M_goesOn_21 : decode b_M_goesOn 21 = .ok (.aload_n 0, 1) := by decide +kernel
theorem d_M_goesOn_22 : decode b_M_goesOn 22 = .ok (.getfield 7, 3) := by decide +kernel
theorem d_M_goesOn_25 : decode b_M_goesOn 25 = .ok (.iload_n 1, 1) := by decide +kernel
theorem d_M_goesOn_26 : decode b_M_goesOn 26 = .ok (.iaload, 1) := by decide +kernel
theorem d_M_goesOn_27 : decode b_M_goesOn 27 = .ok (.if_icmp .ne 7, 3) := by decide +kernel
theorem d_M_goesOn_30 : decode b_M_goesOn 30 = .ok (.iconst 2, 1) := by decide +kernel
theorem d_M_goesOn_31 : decode b_M_goesOn 31 = .ok (.goto 4, 3) := by decide +kernel
theorem d_M_goesOn_34 : decode b_M_goesOn 34 = .ok (.iconst 0, 1) := by decide +kernel
theorem d_M_goesOn_35 : decode b_M_goesOn 35 = .ok (.iastore, 1) := by decide +kernel
theorem d_M_goesOn_36 : decode b_M_goesOn 36 = .ok (.return_, 1) := by decide +kernel
theorem d_M_steps_0 : decode b_M_steps 0 = .ok (.aload_n 0, 1) := by decide +kernel
theorem d_M_steps_1 : decode b_M_steps 1 = .ok (.getfield 25, 3) := by decide +kernel
theorem d_M_steps_4 : decode b_M_steps 4 = .ok (.bipush 12, 2) := by decide +kernel
theorem d_M_steps_6 : decode b_M_steps 6 = .ok (.iload_n 1, 1) := by decide +kernel
theorem d_M_steps_7 : decode b_M_steps 7 = .ok (.imul, 1) := by decide +kernel
theorem d_M_steps_8 : decode b_M_steps 8 = .ok (.aload_n 0, 1) := by decide +kernel
theorem d_M_steps_9 : decode b_M_steps 9 = .ok (.getfield 16, 3) := by decide +kernel
theorem d_M_steps_12 : decode b_M_steps 12 = .ok (.iload_n 1, 1) := by decide +kernel
theorem d_M_steps_13 : decode b_M_steps 13 = .ok (.iaload, 1) := by decide +kernel
theorem d_M_steps_14 : decode b_M_steps 14 = .ok (.iadd, 1) := by decide +kernel
theorem d_M_steps_15 : decode b_M_steps 15 = .ok (.iaload, 1) := by decide +kernel
theorem d_M_steps_16 : decode b_M_steps 16 = .ok (.aload_n 0, 1) := by decide +kernel
theorem d_M_steps_17 : decode b_M_steps 17 = .ok (.iload_n 1, 1) := by decide +kernel
theorem d_M_steps_18 : decode b_M_steps 18 = .ok (.invokevirtual 65, 3) := by decide +kernel
theorem d_M_steps_21 : decode b_M_steps 21 = .ok (.iconst (-1), 1) := by decide +kernel
theorem d_M_steps_22 : decode b_M_steps 22 = .ok (.ixor, 1) := by decide +kernel
theorem d_M_steps_23 : decode b_M_steps 23 = .ok (.iand, 1) := by decide +kernel
theorem d_M_steps_24 : decode b_M_steps 24 = .ok (.istore_n 2, 1) := by decide +kernel
theorem d_M_steps_25 : decode b_M_steps 25 = .ok (.iload_n 2, 1) := by decide +kernel
theorem d_M_steps_26 : decode b_M_steps 26 = .ok (.ifCond .eq 84, 3) := by decide +kernel
theorem d_M_steps_29 : decode b_M_steps 29 = .ok (.iconst 0, 1) := by decide +kernel
theorem d_M_steps_30 : decode b_M_steps 30 = .ok (.istore_n 3, 1) := by decide +kernel
theorem d_M_steps_31 : decode b_M_steps 31 = .ok (.iload_n 2, 1) := by decide +kernel
theorem d_M_steps_32 : decode b_M_steps 32 = .ok (.iload_n 3, 1) := by decide +kernel
theorem d_M_steps_33 : decode b_M_steps 33 = .ok (.ishr, 1) := by decide +kernel
theorem d_M_steps_34 : decode b_M_steps 34 = .ok (.iconst 1, 1) := by decide +kernel
theorem d_M_steps_35 : decode b_M_steps 35 = .ok (.iand, 1) := by decide +kernel
theorem d_M_steps_36 : decode b_M_steps 36 = .ok (.ifCond .ne 9, 3) := by decide +kernel
theorem d_M_steps_39 : decode b_M_steps 39 = .ok (.iinc 3 1, 3) := by decide +kernel
theorem d_M_steps_42 : decode b_M_steps 42 = .ok (.goto (-11), 3) := by decide +kernel
theorem d_M_steps_45 : decode b_M_steps 45 = .ok (.aload_n 0, 1) := by decide +kernel
theorem d_M_steps_46 : decode b_M_steps 46 = .ok (.getfield 28, 3) := by decide +kernel
theorem d_M_steps_49 : decode b_M_steps 49 = .ok (.iload_n 3, 1) := by decide +kernel
theorem d_M_steps_50 : decode b_M_steps 50 = .ok (.iaload, 1) := by decide +kernel
theorem d_M_steps_51 : decode b_M_steps 51 = .ok (.ifCond .ge 23, 3) := by decide +kernel
theorem d_M_steps_54 : decode b_M_steps 54 = .ok (.aload_n 0, 1) := by decide +kernel
theorem d_M_steps_55 : decode b_M_steps 55 = .ok (.getfield 28, 3) := by decide +kernel
theorem d_M_steps_58 : decode b_M_steps 58 = .ok (.iload_n 3, 1) := by decide +kernel
theorem d_M_steps_59 : decode b_M_steps 59 = .ok (.iload_n 1, 1) := by decide +kernel
theorem d_M_steps_60 : decode b_M_steps 60 = .ok (.iastore, 1) := by decide +kernel
theorem d_M_steps_61 : decode b_M_steps 61 = .ok (.aload_n 0, 1) := by decide +kernel
theorem d_M_steps_62 : decode b_M_steps 62 = .ok (.getfield 31, 3) := by decide +kernel
theorem d_M_steps_65 : decode b_M_steps 65 = .ok (.iload_n 3, 1) := by decide +kernel
theorem d_M_steps_66 : decode b_M_steps 66 = .ok (.aload_n 0, 1) := by decide +kernel
theorem d_M_steps_67 : decode b_M_steps 67 = .ok (.getfield 84, 3) := by decide +kernel
theorem d_M_steps_70 : decode b_M_steps 70 = .ok (.iastore, 1) := by decide +kernel
theorem d_M_steps_71 : decode b_M_steps 71 = .ok (.goto 37, 3) := by decide +kernel
theorem d_M_steps_74 : decode b_M_steps 74 = .ok (.aload_n 0, 1) := by decide +kernel
theorem d_M_steps_75 : decode b_M_steps 75 = .ok (.getfield 34, 3) := by decide +kernel
theorem d_M_steps_78 : decode b_M_steps 78 = .ok (.iload_n 1, 1) := by decide +kernel
theorem d_M_steps_79 : decode b_M_steps 79 = .ok (.iload_n 3, 1) := by decide +kernel
theorem d_M_steps_80 : decode b_M_steps 80 = .ok (.iastore, 1) := by decide +kernel
theorem d_M_steps_81 : decode b_M_steps 81 = .ok (.aload_n 0, 1) := by decide +kernel
theorem d_M_steps_82 : decode b_M_steps 82 = .ok (.getfield 37, 3) := by decide +kernel
theorem d_M_steps_85 : decode b_M_steps 85 = .ok (.iload_n 1, 1) := by decide +kernel
theorem d_M_steps_86 : decode b_M_steps 86 = .ok (.aload_n 0, 1) := by decide +kernel
theorem d_M_steps_87 : decode b_M_steps 87 = .ok (.getfield 91, 3) := by decide +kernel
theorem d_M_steps_90 : decode b_M_steps 90 = .ok (.iastore, 1) := by decide +kernel
theorem d_M_steps_91 : decode b_M_steps 91 = .ok (.aload_n 0, 1) := by decide +kernel
theorem d_M_steps_92 : decode b_M_steps 92 = .ok (.dup, 1) := by decide +kernel
theorem d_M_steps_93 : decode b_M_steps 93 = .ok (.getfield 91, 3) := by decide +kernel
theorem d_M_steps_96 : decode b_M_steps 96 = .ok (.iconst 1, 1) := by decide +kernel
theorem d_M_steps_97 : decode b_M_steps 97 = .ok (.iadd, 1) := by decide +kernel
theorem d_M_steps_98 : decode b_M_steps 98 = .ok (.putfield 91, 3) := by decide +kernel
theorem d_M_steps_101 : decode b_M_steps 101 = .ok (.aload_n 0, 1) := by decide +kernel
theorem d_M_steps_102 : decode b_M_steps 102 = .ok (.getfield 22, 3) := by decide +kernel
theorem d_M_steps_105 : decode b_M_steps 105 = .ok (.iload_n 1, 1) := by decide +kernel
theorem d_M_steps_106 : decode b_M_steps 106 = .ok (.iconst 1, 1) := by decide +kernel
theorem d_M_steps_107 : decode b_M_steps 107 = .ok (.iastore, 1) := by decide +kernel
theorem d_M_steps_108 : decode b_M_steps 108 = .ok (.iconst 0, 1) := by decide +kernel
theorem d_M_steps_109 : decode b_M_steps 109 = .ok (.ireturn, 1) := by decide +kernel
theorem d_M_steps_110 : decode b_M_steps 110 = .ok (.aload_n 0, 1) := by decide +kernel
theorem d_M_steps_111 : decode b_M_steps 111 = .ok (.getfield 13, 3) := by decide +kernel
theorem d_M_steps_114 : decode b_M_steps 114 = .ok (.iload_n 1, 1) := by decide +kernel
theorem d_M_steps_115 : decode b_M_steps 115 = .ok (.iaload, 1) := by decide +kernel
theorem d_M_steps_116 : decode b_M_steps 116 = .ok (.aload_n 0, 1) := by decide +kernel
theorem d_M_steps_117 : decode b_M_steps 117 = .ok (.getfield 16, 3) := by decide +kernel
theorem d_M_steps_120 : decode b_M_steps 120 = .ok (.iload_n 1, 1) := by decide +kernel
theorem d_M_steps_121 : decode b_M_steps 121 = .ok (.iaload, 1) := by decide +kernel
theorem d_M_steps_122 : decode b_M_steps 122 = .ok (.if_icmp .ne 7, 3) := by decide +kernel
theorem d_M_steps_125 : decode b_M_steps 125 = .ok (.iconst 1, 1) := by decide +kernel
theorem d_M_steps_126 : decode b_M_steps 126 = .ok (.goto 4, 3) := by decide +kernel
theorem d_M_steps_129 : decode b_M_steps 129 = .ok (.iconst 0, 1) := by decide +kernel
theorem d_M_steps_130 : decode b_M_steps 130 = .ok (.istore_n 3, 1) := by decide +kernel
theorem d_M_steps_131 : decode b_M_steps 131 = .ok (.aload_n 0, 1) := by decide +kernel
theorem d_M_steps_132 : decode b_M_steps 132 = .ok (.iload_n 3, 1) := by decide +kernel
theorem d_M_steps_133 : decode b_M_steps 133 = .ok (.ifCond .eq 7, 3) := by decide +kernel
theorem d_M_steps_136 : decode b_M_steps 136 = .ok (.iconst 2, 1) := by decide +kernel
theorem d_M_steps_137 : decode b_M_steps 137 = .ok (.goto 4, 3) := by decide +kernel
theorem d_M_steps_140 : decode b_M_steps 140 = .ok (.iconst 1, 1) := by decide +kernel
theorem d_M_steps_141 : decode b_M_steps 141 = .ok (.iload_n 1, 1) := by decide +kernel
theorem d_M_steps_142 : decode b_M_steps 142 = .ok (.invokevirtual 94, 3) := by decide +kernel
theorem d_M_steps_145 : decode b_M_steps 145 = .ok (.aload_n 0, 1) := by decide +kernel
theorem d_M_steps_146 : decode b_M_steps 146 = .ok (.getfield 13, 3) := by decide +kernel
theorem d_M_steps_149 : decode b_M_steps 149 = .ok (.iload_n 1, 1) := by decide +kernel
theorem d_M_steps_150 : decode b_M_steps 150 = .ok (.iload_n 3, 1) := by decide +kernel
theorem d_M_steps_151 : decode b_M_steps 151 = .ok (.ifCond .eq 7, 3) := by decide +kernel
theorem d_M_steps_154 : decode b_M_steps 154 = .ok (.iconst (-1), 1) := by decide +kernel
theorem d_M_steps_155 : decode b_M_steps 155 = .ok (.goto 9, 3) := by decide +kernel
theorem d_M_steps_158 : decode b_M_steps 158 = .ok (.aload_n 0, 1) := by decide +kernel
theorem d_M_steps_159 : decode b_M_steps 159 = .ok (.getfield 13, 3) := by decide +kernel
theorem d_M_steps_162 : decode b_M_steps 162 = .ok (.iload_n 1, 1) := by decide +kernel
theorem d_M_steps_163 : decode b_M_steps 163 = .ok (.iaload, 1) := by decide +kernel
theorem d_M_steps_164 : decode b_M_steps 164 = .ok (.iastore, 1) := by decide +kernel
theorem d_M_steps_165 : decode b_M_steps 165 = .ok (.aload_n 0, 1) := by decide +kernel
theorem d_M_steps_166 : decode b_M_steps 166 = .ok (.iload_n 1, 1) := by decide +kernel
theorem d_M_steps_167 : decode b_M_steps 167 = .ok (.invokevirtual 98, 3) := by decide +kernel
theorem d_M_steps_170 : decode b_M_steps 170 = .ok (.iload_n 3, 1) := by decide +kernel
theorem d_M_steps_171 : decode b_M_steps 171 = .ok (.ifCond .ne 18, 3) := by decide +kernel
theorem d_M_steps_174 : decode b_M_steps 174 = .ok (.aload_n 0, 1) := by decide +kernel
theorem d_M_steps_175 : decode b_M_steps 175 = .ok (.getfield 19, 3) := by decide +kernel
theorem d_M_steps_178 : decode b_M_steps 178 = .ok (.iload_n 1, 1) := by decide +kernel
theorem d_M_steps_179 : decode b_M_steps 179 = .ok (.dup2, 1) := by decide +kernel
theorem d_M_steps_180 : decode b_M_steps 180 = .ok (.iaload, 1) := by decide +kernel
theorem d_M_steps_181 : decode b_M_steps 181 = .ok (.iconst 1, 1) := by decide +kernel
theorem d_M_steps_182 : decode b_M_steps 182 = .ok (.iadd, 1) := by decide +kernel
theorem d_M_steps_183 : decode b_M_steps 183 = .ok (.iastore, 1) := by decide +kernel
theorem d_M_steps_184 : decode b_M_steps 184 = .ok (.aload_n 0, 1) := by decide +kernel
theorem d_M_steps_185 : decode b_M_steps 185 = .ok (.iload_n 1, 1) := by decide +kernel
theorem d_M_steps_186 : decode b_M_steps 186 = .ok (.invokevirtual 101, 3) := by decide +kernel
