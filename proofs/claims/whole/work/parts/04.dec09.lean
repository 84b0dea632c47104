theorem d_M_tick_0 : decode b_M_tick 0 = .ok (.iload_n 1, 1) := by decide +kernel
theorem d_M_tick_1 : decode b_M_tick 1 = .ok (.aload_n 0, 1) := by decide +kernel
theorem d_M_tick_2 : decode b_M_tick 2 = .ok (.getfield 84, 3) := by decide +kernel
theorem d_M_tick_5 : decode b_M_tick 5 = .ok (.ldc 119, 2) := by decide +kernel
theorem d_M_tick_7 : decode b_M_tick 7 = .ok (.invokestatic 53, 3) := by decide +kernel
theorem d_M_tick_10 : decode b_M_tick 10 = .ok (.ifCond .ne 9, 3) := by decide +kernel
theorem d_M_tick_13 : decode b_M_tick 13 = .ok (.aload_n 0, 1) := by decide +kernel
theorem d_M_tick_14 : decode b_M_tick 14 = .ok (.iconst 1, 1) := by decide +kernel
theorem d_M_tick_15 : decode b_M_tick 15 = .ok (.invokevirtual 57, 3) := by decide +kernel
theorem d_M_tick_18 : decode b_M_tick 18 = .ok (.ireturn, 1) := by decide +kernel
theorem d_M_tick_19 : decode b_M_tick 19 = .ok (.aload_n 0, 1) := by decide +kernel
theorem d_M_tick_20 : decode b_M_tick 20 = .ok (.iconst 0, 1) := by decide +kernel
theorem d_M_tick_21 : decode b_M_tick 21 = .ok (.putfield 46, 3) := by decide +kernel
theorem d_M_tick_24 : decode b_M_tick 24 = .ok (.aload_n 0, 1) := by decide +kernel
theorem d_M_tick_25 : decode b_M_tick 25 = .ok (.iload_n 1, 1) := by decide +kernel
theorem d_M_tick_26 : decode b_M_tick 26 = .ok (.putfield 84, 3) := by decide +kernel
theorem d_M_tick_29 : decode b_M_tick 29 = .ok (.iconst 0, 1) := by decide +kernel
theorem d_M_tick_30 : decode b_M_tick 30 = .ok (.istore_n 2, 1) := by decide +kernel
theorem d_M_tick_31 : decode b_M_tick 31 = .ok (.iconst 0, 1) := by decide +kernel
theorem d_M_tick_32 : decode b_M_tick 32 = .ok (.istore_n 3, 1) := by decide +kernel
theorem d_M_tick_33 : decode b_M_tick 33 = .ok (.iload_n 3, 1) := by decide +kernel
theorem d_M_tick_34 : decode b_M_tick 34 = .ok (.bipush 16, 2) := by decide +kernel
theorem d_M_tick_36 : decode b_M_tick 36 = .ok (.if_icmp .ge 57, 3) := by decide +kernel
theorem d_M_tick_39 : decode b_M_tick 39 = .ok (.aload_n 0, 1) := by decide +kernel
theorem d_M_tick_40 : decode b_M_tick 40 = .ok (.getfield 28, 3) := by decide +kernel
theorem d_M_tick_43 : decode b_M_tick 43 = .ok (.iload_n 3, 1) := by decide +kernel
theorem d_M_tick_44 : decode b_M_tick 44 = .ok (.iaload, 1) := by decide +kernel
theorem d_M_tick_45 : decode b_M_tick 45 = .ok (.istore 4, 2) := by decide +kernel
theorem d_M_tick_47 : decode b_M_tick 47 = .ok (.iload 4, 2) := by decide +kernel
theorem d_M_tick_49 : decode b_M_tick 49 = .ok (.ifCond .lt 38, 3) := by decide +kernel
theorem d_M_tick_52 : decode b_M_tick 52 = .ok (.aload_n 0, 1) := by decide +kernel
theorem d_M_tick_53 : decode b_M_tick 53 = .ok (.getfield 22, 3) := by decide +kernel
theorem d_M_tick_56 : decode b_M_tick 56 = .ok (.iload 4, 2) := by decide +kernel
theorem d_M_tick_58 : decode b_M_tick 58 = .ok (.iaload, 1) := by decide +kernel
theorem d_M_tick_59 : decode b_M_tick 59 = .ok (.iconst 3, 1) := by decide +kernel
theorem d_M_tick_60 : decode b_M_tick 60 = .ok (.if_icmp .ne 27, 3) := by decide +kernel
theorem d_M_tick_63 : decode b_M_tick 63 = .ok (.aload_n 0, 1) := by decide +kernel
theorem d_M_tick_64 : decode b_M_tick 64 = .ok (.getfield 84, 3) := by decide +kernel
theorem d_M_tick_67 : decode b_M_tick 67 = .ok (.aload_n 0, 1) := by decide +kernel
theorem d_M_tick_68 : decode b_M_tick 68 = .ok (.getfield 31, 3) := by decide +kernel
theorem d_M_tick_71 : decode b_M_tick 71 = .ok (.iload_n 3, 1) := by decide +kernel
theorem d_M_tick_72 : decode b_M_tick 72 = .ok (.iaload, 1) := by decide +kernel
theorem d_M_tick_73 : decode b_M_tick 73 = .ok (.isub, 1) := by decide +kernel
theorem d_M_tick_74 : decode b_M_tick 74 = .ok (.bipush 100, 2) := by decide +kernel
theorem d_M_tick_76 : decode b_M_tick 76 = .ok (.if_icmp .le 11, 3) := by decide +kernel
theorem d_M_tick_79 : decode b_M_tick 79 = .ok (.aload_n 0, 1) := by decide +kernel
theorem d_M_tick_80 : decode b_M_tick 80 = .ok (.iload_n 3, 1) := by decide +kernel
theorem d_M_tick_81 : decode b_M_tick 81 = .ok (.invokevirtual 87, 3) := by decide +kernel
theorem d_M_tick_84 : decode b_M_tick 84 = .ok (.iinc 2 1, 3) := by decide +kernel
theorem d_M_tick_87 : decode b_M_tick 87 = .ok (.iinc 3 1, 3) := by decide +kernel
theorem d_M_tick_90 : decode b_M_tick 90 = .ok (.goto (-57), 3) := by decide +kernel
theorem d_M_tick_93 : decode b_M_tick 93 = .ok (.iload_n 2, 1) := by decide +kernel
theorem d_M_tick_94 : decode b_M_tick 94 = .ok (.ireturn, 1) := by decide +kernel
theorem d_M_close_0 : decode b_M_close 0 = .ok (.aload_n 0, 1) := by decide +kernel
theorem d_M_close_1 : decode b_M_close 1 = .ok (.iconst 0, 1) := by decide +kernel
theorem d_M_close_2 : decode b_M_close 2 = .ok (.putfield 46, 3) := by decide +kernel
theorem d_M_close_5 : decode b_M_close 5 = .ok (.aload_n 0, 1) := by decide +kernel
theorem d_M_close_6 : decode b_M_close 6 = .ok (.getfield 61, 3) := by decide +kernel
theorem d_M_close_9 : decode b_M_close 9 = .ok (.ifCond .eq 5, 3) := by decide +kernel
theorem d_M_close_12 : decode b_M_close 12 = .ok (.iconst (-1), 1) := by decide +kernel
theorem d_M_close_13 : decode b_M_close 13 = .ok (.ireturn, 1) := by decide +kernel
theorem d_M_close_14 : decode b_M_close 14 = .ok (.aload_n 0, 1) := by decide +kernel
theorem d_M_close_15 : decode b_M_close 15 = .ok (.iconst 1, 1) := by decide +kernel
theorem d_M_close_16 : decode b_M_close 16 = .ok (.putfield 61, 3) := by decide +kernel
theorem d_M_close_19 : decode b_M_close 19 = .ok (.iconst 0, 1) := by decide +kernel
theorem d_M_close_20 : decode b_M_close 20 = .ok (.istore_n 1, 1) := by decide +kernel
theorem d_M_close_21 : decode b_M_close 21 = .ok (.iconst 0, 1) := by decide +kernel
theorem d_M_close_22 : decode b_M_close 22 = .ok (.istore_n 2, 1) := by decide +kernel
theorem d_M_close_23 : decode b_M_close 23 = .ok (.iload_n 2, 1) := by decide +kernel
theorem d_M_close_24 : decode b_M_close 24 = .ok (.aload_n 0, 1) := by decide +kernel
theorem d_M_close_25 : decode b_M_close 25 = .ok (.getfield 50, 3) := by decide +kernel
theorem d_M_close_28 : decode b_M_close 28 = .ok (.if_icmp .ge 55, 3) := by decide +kernel
theorem d_M_close_31 : decode b_M_close 31 = .ok (.aload_n 0, 1) := by decide +kernel
theorem d_M_close_32 : decode b_M_close 32 = .ok (.getfield 22, 3) := by decide +kernel
theorem d_M_close_35 : decode b_M_close 35 = .ok (.iload_n 2, 1) := by decide +kernel
theorem d_M_close_36 : decode b_M_close 36 = .ok (.iaload, 1) := by decide +kernel
theorem d_M_close_37 : decode b_M_close 37 = .ok (.iconst 2, 1) := by decide +kernel
theorem d_M_close_38 : decode b_M_close 38 = .ok (.if_icmp .eq 39, 3) := by decide +kernel
theorem d_M_close_41 : decode b_M_close 41 = .ok (.aload_n 0, 1) := by decide +kernel
theorem d_M_close_42 : decode b_M_close 42 = .ok (.iload_n 2, 1) := by decide +kernel
theorem d_M_close_43 : decode b_M_close 43 = .ok (.invokevirtual 75, 3) := by decide +kernel
theorem d_M_close_46 : decode b_M_close 46 = .ok (.ifCond .eq 9, 3) := by decide +kernel
theorem d_M_close_49 : decode b_M_close 49 = .ok (.aload_n 0, 1) := by decide +kernel
theorem d_M_close_50 : decode b_M_close 50 = .ok (.iconst 4, 1) := by decide +kernel
theorem d_M_close_51 : decode b_M_close 51 = .ok (.iload_n 2, 1) := by decide +kernel
theorem d_M_close_52 : decode b_M_close 52 = .ok (.invokevirtual 94, 3) := by decide +kernel
theorem d_M_close_55 : decode b_M_close 55 = .ok (.aload_n 0, 1) := by decide +kernel
theorem d_M_close_56 : decode b_M_close 56 = .ok (.getfield 22, 3) := by decide +kernel
theorem d_M_close_59 : decode b_M_close 59 = .ok (.iload_n 2, 1) := by decide +kernel
theorem d_M_close_60 : decode b_M_close 60 = .ok (.iconst 4, 1) := by decide +kernel
theorem d_M_close_61 : decode b_M_close 61 = .ok (.iastore, 1) := by decide +kernel
theorem d_M_close_62 : decode b_M_close 62 = .ok (.aload_n 0, 1) := by decide +kernel
theorem d_M_close_63 : decode b_M_close 63 = .ok (.getfield 34, 3) := by decide +kernel
theorem d_M_close_66 : decode b_M_close 66 = .ok (.iload_n 2, 1) := by decide +kernel
theorem d_M_close_67 : decode b_M_close 67 = .ok (.iconst (-1), 1) := by decide +kernel
theorem d_M_close_68 : decode b_M_close 68 = .ok (.iastore, 1) := by decide +kernel
theorem d_M_close_69 : decode b_M_close 69 = .ok (.aload_n 0, 1) := by decide +kernel
theorem d_M_close_70 : decode b_M_close 70 = .ok (.iload_n 2, 1) := by decide +kernel
theorem d_M_close_71 : decode b_M_close 71 = .ok (.invokevirtual 98, 3) := by decide +kernel
theorem d_M_close_74 : decode b_M_close 74 = .ok (.iinc 1 1, 3) := by decide +kernel
theorem d_M_close_77 : decode b_M_close 77 = .ok (.iinc 2 1, 3) := by decide +kernel
theorem d_M_close_80 : decode b_M_close 80 = .ok (.goto (-57), 3) := by decide +kernel
theorem d_M_close_83 : decode b_M_close 83 = .ok (.iload_n 1, 1) := by decide +kernel
theorem d_M_close_84 : decode b_M_close 84 = .ok (.ireturn, 1) := by decide +kernel
theorem d_M_look_0 : decode b_M_look 0 = .ok (.aload_n 0, 1) := by decide +kernel
theorem d_M_look_1 : decode b_M_look 1 = .ok (.iload_n 1, 1) := by decide +kernel
theorem d_M_look_2 : decode b_M_look 2 = .ok (.invokevirtual 68, 3) := by decide +kernel
theorem d_M_look_5 : decode b_M_look 5 = .ok (.ifCond .eq 12, 3) := by decide +kernel
theorem d_M_look_8 : decode b_M_look 8 = .ok (.iload_n 2, 1) := by decide +kernel
theorem d_M_look_9 : decode b_M_look 9 = .ok (.iconst 0, 1) := by decide +kernel
theorem d_M_look_10 : decode b_M_look 10 = .ok (.iconst 4, 1) := by decide +kernel
theorem d_M_look_11 : decode b_M_look 11 = .ok (.invokestatic 53, 3) := by decide +kernel
theorem d_M_look_14 : decode b_M_look 14 = .ok (.ifCond .ne 9, 3) := by decide +kernel
theorem d_M_look_17 : decode b_M_look 17 = .ok (.aload_n 0, 1) := by decide +kernel
theorem d_M_look_18 : decode b_M_look 18 = .ok (.iconst 1, 1) := by decide +kernel
theorem d_M_look_19 : decode b_M_look 19 = .ok (.invokevirtual 57, 3) := by decide +kernel
theorem d_M_look_22 : decode b_M_look 22 = .ok (.ireturn, 1) := by decide +kernel
theorem d_M_look_23 : decode b_M_look 23 = .ok (.aload_n 0, 1) := by decide +kernel
theorem d_M_look_24 : decode b_M_look 24 = .ok (.iconst 0, 1) := by decide +kernel
theorem d_M_look_25 : decode b_M_look 25 = .ok (.putfield 46, 3) := by decide +kernel
theorem d_M_look_28 : decode b_M_look 28 = .ok (.iload_n 2, 1) := by decide +kernel
theorem d_M_look_29 : decode b_M_look 29 = .ok (.tableswitch 58 0 3 #[31, 38, 45, 52], 31) := by decide +kernel
theorem d_M_look_60 : decode b_M_look 60 = .ok (.aload_n 0, 1) := by decide +kernel
theorem d_M_look_61 : decode b_M_look 61 = .ok (.getfield 16, 3) := by decide +kernel
theorem d_M_look_64 : decode b_M_look 64 = .ok (.iload_n 1, 1) := by decide +kernel
theorem d_M_look_65 : decode b_M_look 65 = .ok (.iaload, 1) := by decide +kernel
theorem d_M_look_66 : decode b_M_look 66 = .ok (.ireturn, 1) := by decide +kernel
theorem d_M_look_67 : decode b_M_look 67 = .ok (.aload_n 0, 1) := by decide +kernel
theorem d_M_look_68 : decode b_M_look 68 = .ok (.getfield 19, 3) := by decide +kernel
theorem d_M_look_71 : decode b_M_look 71 = .ok (.iload_n 1, 1) := by decide +kernel
theorem d_M_look_72 : decode b_M_look 72 = .ok (.iaload, 1) := by decide +kernel
theorem d_M_look_73 : decode b_M_look 73 = .ok (.ireturn, 1) := by decide +kernel
theorem d_M_look_74 : decode b_M_look 74 = .ok (.aload_n 0, 1) := by decide +kernel
theorem d_M_look_75 : decode b_M_look 75 = .ok (.getfield 22, 3) := by decide +kernel
theorem d_M_look_78 : decode b_M_look 78 = .ok (.iload_n 1, 1) := by decide +kernel
theorem d_M_look_79 : decode b_M_look 79 = .ok (.iaload, 1) := by decide +kernel
theorem d_M_look_80 : decode b_M_look 80 = .ok (.ireturn, 1) := by decide +kernel
theorem d_M_look_81 : decode b_M_look 81 = .ok (.aload_n 0, 1) := by decide +kernel
theorem d_M_look_82 : decode b_M_look 82 = .ok (.iload_n 1, 1) := by decide +kernel
theorem d_M_look_83 : decode b_M_look 83 = .ok (.invokevirtual 65, 3) := by decide +kernel
theorem d_M_look_86 : decode b_M_look 86 = .ok (.ireturn, 1) := by decide +kernel
theorem d_M_look_87 : decode b_M_look 87 = .ok (.aload_n 0, 1) := by decide +kernel
theorem d_M_look_88 : decode b_M_look 88 = .ok (.getfield 34, 3) := by decide +kernel
theorem d_M_look_91 : decode b_M_look 91 = .ok (.iload_n 1, 1) := by decide +kernel
theorem d_M_look_92 : decode b_M_look 92 = .ok (.iaload, 1) := by decide +kernel
theorem d_M_look_93 : decode b_M_look 93 = .ok (.ireturn, 1) := by decide +kernel
theorem d_M_count_0 : decode b_M_count 0 = .ok (.aload_n 0, 1) := by decide +kernel
theorem d_M_count_1 : decode b_M_count 1 = .ok (.iconst 0, 1) := by decide +kernel
theorem d_M_count_2 : decode b_M_count 2 = .ok (.putfield 46, 3) := by decide +kernel
theorem d_M_count_5 : decode b_M_count 5 = .ok (.iconst 0, 1) := by decide +kernel
theorem d_M_count_6 : decode b_M_count 6 = .ok (.istore_n 2, 1) := by decide +kernel
theorem d_M_count_7 : decode b_M_count 7 = .ok (.iconst 0, 1) := by decide +kernel
theorem d_M_count_8 : decode b_M_count 8 = .ok (.istore_n 3, 1) := by decide +kernel
theorem d_M_count_9 : decode b_M_count 9 = .ok (.iload_n 3, 1) := by decide +kernel
theorem d_M_count_10 : decode b_M_count 10 = .ok (.bipush 16, 2) := by decide +kernel
theorem d_M_count_12 : decode b_M_count 12 = .ok (.if_icmp .ge 26, 3) := by decide +kernel
theorem d_M_count_15 : decode b_M_count 15 = .ok (.iload_n 2, 1) := by decide +kernel
theorem d_M_count_16 : decode b_M_count 16 = .ok (.aload_n 0, 1) := by decide +kernel
theorem d_M_count_17 : decode b_M_count 17 = .ok (.getfield 28, 3) := by decide +kernel
theorem d_M_count_20 : decode b_M_count 20 = .ok (.iload_n 3, 1) := by decide +kernel
theorem d_M_count_21 : decode b_M_count 21 = .ok (.iaload, 1) := by decide +kernel
theorem d_M_count_22 : decode b_M_count 22 = .ok (.ifCond .lt 7, 3) := by decide +kernel
theorem d_M_count_25 : decode b_M_count 25 = .ok (.iconst 1, 1) := by decide +kernel
theorem d_M_count_26 : decode b_M_count 26 = .ok (.goto 4, 3) := by decide +kernel
theorem d_M_count_29 : decode b_M_count 29 = .ok (.iconst 0, 1) := by decide +kernel
theorem d_M_count_30 : decode b_M_count 30 = .ok (.iadd, 1) := by decide +kernel
theorem d_M_count_31 : decode b_M_count 31 = .ok (.istore_n 2, 1) := by decide +kernel
theorem d_M_count_32 : decode b_M_count 32 = .ok (.iinc 3 1, 3) := by decide +kernel
theorem d_M_count_35 : decode b_M_count 35 = .ok (.goto (-26), 3) := by decide +kernel
theorem d_M_count_38 : decode b_M_count 38 = .ok (.iload_n 1, 1) := by decide +kernel
theorem d_M_count_39 : decode b_M_count 39 = .ok (.tableswitch 81 0 6 #[41, 46, 51, 56, 61, 66, 79], 41) := by decide +kernel
theorem d_M_count_80 : decode b_M_count 80 = .ok (.aload_n 0, 1) := by decide +kernel
theorem d_M_count_81 : decode b_M_count 81 = .ok (.getfield 50, 3) := by decide +kernel
theorem d_M_count_84 : decode b_M_count 84 = .ok (.ireturn, 1) := by decide +kernel
theorem d_M_count_85 : decode b_M_count 85 = .ok (.aload_n 0, 1) := by decide +kernel
theorem d_M_count_86 : decode b_M_count 86 = .ok (.getfield 78, 3) := by decide +kernel
theorem d_M_count_89 : decode b_M_count 89 = .ok (.ireturn, 1) := by decide +kernel
theorem d_M_count_90 : decode b_M_count 90 = .ok (.aload_n 0, 1) := by decide +kernel
theorem d_M_count_91 : decode b_M_count 91 = .ok (.getfield 104, 3) := by decide +kernel
theorem d_M_count_94 : decode b_M_count 94 = .ok (.ireturn, 1) := by decide +kernel
theorem d_M_count_95 : decode b_M_count 95 = .ok (.aload_n 0, 1) := by decide +kernel
theorem d_M_count_96 : decode b_M_count 96 = .ok (.getfield 110, 3) := by decide +kernel
theorem d_M_count_99 : decode b_M_count 99 = .ok (.ireturn, 1) := by decide +kernel
theorem d_M_count_100 : decode b_M_count 100 = .ok (.aload_n 0, 1) := by decide +kernel
theorem d_M_count_101 : decode b_M_count 101 = .ok (.getfield 84, 3) := by decide +kernel
theorem d_M_count_104 : decode b_M_count 104 = .ok (.ireturn, 1) := by decide +kernel
theorem d_M_count_105 : decode b_M_count 105 = .ok (.aload_n 0, 1) := by decide +kernel
theorem d_M_count_106 : decode b_M_count 106 = .ok (.getfield 61, 3) := by decide +kernel
theorem d_M_count_109 : decode b_M_count 109 = .ok (.ifCond .eq 7, 3) := by decide +kernel
theorem d_M_count_112 : decode b_M_count 112 = .ok (.iconst 1, 1) := by decide +kernel
theorem d_M_count_113 : decode b_M_count 113 = .ok (.goto 4, 3) := by decide +kernel
theorem d_M_count_116 : decode b_M_count 116 = .ok (.iconst 0, 1) := by decide +kernel
theorem d_M_count_117 : decode b_M_count 117 = .ok (.ireturn, 1) := by decide +kernel
theorem d_M_count_118 : decode b_M_count 118 = .ok (.iload_n 2, 1) := by decide +kernel
theorem d_M_count_119 : decode b_M_count 119 = .ok (.ireturn, 1) := by decide +kernel
theorem d_M_count_120 : decode b_M_count 120 = .ok (.iconst (-1), 1) := by decide +kernel
theorem d_M_count_121 : decode b_M_count 121 = .ok (.ireturn, 1) := by decide +kernel
