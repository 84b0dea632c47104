theorem d_M_init_0 : decode b_M_init 0 = .ok (.aload_n 0, 1) := by decide +kernel
theorem d_M_init_1 : decode b_M_init 1 = .ok (.invokespecial 1, 3) := by decide +kernel
theorem d_M_init_4 : decode b_M_init 4 = .ok (.aload_n 0, 1) := by decide +kernel
theorem d_M_init_5 : decode b_M_init 5 = .ok (.bipush 8, 2) := by decide +kernel
theorem d_M_init_7 : decode b_M_init 7 = .ok (.newarray .int, 2) := by decide +kernel
theorem d_M_init_9 : decode b_M_init 9 = .ok (.putfield 7, 3) := by decide +kernel
theorem d_M_init_12 : decode b_M_init 12 = .ok (.aload_n 0, 1) := by decide +kernel
theorem d_M_init_13 : decode b_M_init 13 = .ok (.bipush 8, 2) := by decide +kernel
theorem d_M_init_15 : decode b_M_init 15 = .ok (.newarray .int, 2) := by decide +kernel
theorem d_M_init_17 : decode b_M_init 17 = .ok (.putfield 13, 3) := by decide +kernel
theorem d_M_init_20 : decode b_M_init 20 = .ok (.aload_n 0, 1) := by decide +kernel
theorem d_M_init_21 : decode b_M_init 21 = .ok (.bipush 8, 2) := by decide +kernel
theorem d_M_init_23 : decode b_M_init 23 = .ok (.newarray .int, 2) := by decide +kernel
theorem d_M_init_25 : decode b_M_init 25 = .ok (.putfield 16, 3) := by decide +kernel
theorem d_M_init_28 : decode b_M_init 28 = .ok (.aload_n 0, 1) := by decide +kernel
theorem d_M_init_29 : decode b_M_init 29 = .ok (.bipush 8, 2) := by decide +kernel
theorem d_M_init_31 : decode b_M_init 31 = .ok (.newarray .int, 2) := by decide +kernel
theorem d_M_init_33 : decode b_M_init 33 = .ok (.putfield 19, 3) := by decide +kernel
theorem d_M_init_36 : decode b_M_init 36 = .ok (.aload_n 0, 1) := by decide +kernel
theorem d_M_init_37 : decode b_M_init 37 = .ok (.bipush 8, 2) := by decide +kernel
theorem d_M_init_39 : decode b_M_init 39 = .ok (.newarray .int, 2) := by decide +kernel
theorem d_M_init_41 : decode b_M_init 41 = .ok (.putfield 22, 3) := by decide +kernel
theorem d_M_init_44 : decode b_M_init 44 = .ok (.aload_n 0, 1) := by decide +kernel
theorem d_M_init_45 : decode b_M_init 45 = .ok (.bipush 96, 2) := by decide +kernel
theorem d_M_init_47 : decode b_M_init 47 = .ok (.newarray .int, 2) := by decide +kernel
theorem d_M_init_49 : decode b_M_init 49 = .ok (.putfield 25, 3) := by decide +kernel
theorem d_M_init_52 : decode b_M_init 52 = .ok (.aload_n 0, 1) := by decide +kernel
theorem d_M_init_53 : decode b_M_init 53 = .ok (.bipush 16, 2) := by decide +kernel
theorem d_M_init_55 : decode b_M_init 55 = .ok (.newarray .int, 2) := by decide +kernel
theorem d_M_init_57 : decode b_M_init 57 = .ok (.putfield 28, 3) := by decide +kernel
theorem d_M_init_60 : decode b_M_init 60 = .ok (.aload_n 0, 1) := by decide +kernel
theorem d_M_init_61 : decode b_M_init 61 = .ok (.bipush 16, 2) := by decide +kernel
theorem d_M_init_63 : decode b_M_init 63 = .ok (.newarray .int, 2) := by decide +kernel
theorem d_M_init_65 : decode b_M_init 65 = .ok (.putfield 31, 3) := by decide +kernel
theorem d_M_init_68 : decode b_M_init 68 = .ok (.aload_n 0, 1) := by decide +kernel
theorem d_M_init_69 : decode b_M_init 69 = .ok (.bipush 8, 2) := by decide +kernel
theorem d_M_init_71 : decode b_M_init 71 = .ok (.newarray .int, 2) := by decide +kernel
theorem d_M_init_73 : decode b_M_init 73 = .ok (.putfield 34, 3) := by decide +kernel
theorem d_M_init_76 : decode b_M_init 76 = .ok (.aload_n 0, 1) := by decide +kernel
theorem d_M_init_77 : decode b_M_init 77 = .ok (.bipush 8, 2) := by decide +kernel
theorem d_M_init_79 : decode b_M_init 79 = .ok (.newarray .int, 2) := by decide +kernel
theorem d_M_init_81 : decode b_M_init 81 = .ok (.putfield 37, 3) := by decide +kernel
theorem d_M_init_84 : decode b_M_init 84 = .ok (.aload_n 0, 1) := by decide +kernel
theorem d_M_init_85 : decode b_M_init 85 = .ok (.sipush 300, 3) := by decide +kernel
theorem d_M_init_88 : decode b_M_init 88 = .ok (.newarray .int, 2) := by decide +kernel
theorem d_M_init_90 : decode b_M_init 90 = .ok (.putfield 40, 3) := by decide +kernel
theorem d_M_init_93 : decode b_M_init 93 = .ok (.aload_n 0, 1) := by decide +kernel
theorem d_M_init_94 : decode b_M_init 94 = .ok (.sipush 400, 3) := by decide +kernel
theorem d_M_init_97 : decode b_M_init 97 = .ok (.newarray .int, 2) := by decide +kernel
theorem d_M_init_99 : decode b_M_init 99 = .ok (.putfield 43, 3) := by decide +kernel
theorem d_M_init_102 : decode b_M_init 102 = .ok (.iconst 0, 1) := by decide +kernel
theorem d_M_init_103 : decode b_M_init 103 = .ok (.istore_n 1, 1) := by decide +kernel
theorem d_M_init_104 : decode b_M_init 104 = .ok (.iload_n 1, 1) := by decide +kernel
theorem d_M_init_105 : decode b_M_init 105 = .ok (.bipush 16, 2) := by decide +kernel
theorem d_M_init_107 : decode b_M_init 107 = .ok (.if_icmp .ge 16, 3) := by decide +kernel
theorem d_M_init_110 : decode b_M_init 110 = .ok (.aload_n 0, 1) := by decide +kernel
theorem d_M_init_111 : decode b_M_init 111 = .ok (.getfield 28, 3) := by decide +kernel
theorem d_M_init_114 : decode b_M_init 114 = .ok (.iload_n 1, 1) := by decide +kernel
theorem d_M_init_115 : decode b_M_init 115 = .ok (.iconst (-1), 1) := by decide +kernel
theorem d_M_init_116 : decode b_M_init 116 = .ok (.iastore, 1) := by decide +kernel
theorem d_M_init_117 : decode b_M_init 117 = .ok (.iinc 1 1, 3) := by decide +kernel
theorem d_M_init_120 : decode b_M_init 120 = .ok (.goto (-16), 3) := by decide +kernel
theorem d_M_init_123 : decode b_M_init 123 = .ok (.return_, 1) := by decide +kernel
theorem d_M_thrown_0 : decode b_M_thrown 0 = .ok (.aload_n 0, 1) := by decide +kernel
theorem d_M_thrown_1 : decode b_M_thrown 1 = .ok (.getfield 46, 3) := by decide +kernel
theorem d_M_thrown_4 : decode b_M_thrown 4 = .ok (.ireturn, 1) := by decide +kernel
theorem d_M_refuse_0 : decode b_M_refuse 0 = .ok (.aload_n 0, 1) := by decide +kernel
theorem d_M_refuse_1 : decode b_M_refuse 1 = .ok (.iload_n 1, 1) := by decide +kernel
theorem d_M_refuse_2 : decode b_M_refuse 2 = .ok (.putfield 46, 3) := by decide +kernel
theorem d_M_refuse_5 : decode b_M_refuse 5 = .ok (.iconst 0, 1) := by decide +kernel
theorem d_M_refuse_6 : decode b_M_refuse 6 = .ok (.ireturn, 1) := by decide +kernel
theorem d_M_in_0 : decode b_M_in 0 = .ok (.iload_n 0, 1) := by decide +kernel
theorem d_M_in_1 : decode b_M_in 1 = .ok (.iload_n 1, 1) := by decide +kernel
theorem d_M_in_2 : decode b_M_in 2 = .ok (.if_icmp .lt 12, 3) := by decide +kernel
theorem d_M_in_5 : decode b_M_in 5 = .ok (.iload_n 0, 1) := by decide +kernel
theorem d_M_in_6 : decode b_M_in 6 = .ok (.iload_n 2, 1) := by decide +kernel
theorem d_M_in_7 : decode b_M_in 7 = .ok (.if_icmp .gt 7, 3) := by decide +kernel
theorem d_M_in_10 : decode b_M_in 10 = .ok (.iconst 1, 1) := by decide +kernel
theorem d_M_in_11 : decode b_M_in 11 = .ok (.goto 4, 3) := by decide +kernel
theorem d_M_in_14 : decode b_M_in 14 = .ok (.iconst 0, 1) := by decide +kernel
theorem d_M_in_15 : decode b_M_in 15 = .ok (.ireturn, 1) := by decide +kernel
theorem d_M_isDesk_0 : decode b_M_isDesk 0 = .ok (.iload_n 1, 1) := by decide +kernel
theorem d_M_isDesk_1 : decode b_M_isDesk 1 = .ok (.ifCond .lt 15, 3) := by decide +kernel
theorem d_M_isDesk_4 : decode b_M_isDesk 4 = .ok (.iload_n 1, 1) := by decide +kernel
theorem d_M_isDesk_5 : decode b_M_isDesk 5 = .ok (.aload_n 0, 1) := by decide +kernel
theorem d_M_isDesk_6 : decode b_M_isDesk 6 = .ok (.getfield 50, 3) := by decide +kernel
theorem d_M_isDesk_9 : decode b_M_isDesk 9 = .ok (.if_icmp .ge 7, 3) := by decide +kernel
theorem d_M_isDesk_12 : decode b_M_isDesk 12 = .ok (.iconst 1, 1) := by decide +kernel
theorem d_M_isDesk_13 : decode b_M_isDesk 13 = .ok (.goto 4, 3) := by decide +kernel
theorem d_M_isDesk_16 : decode b_M_isDesk 16 = .ok (.iconst 0, 1) := by decide +kernel
theorem d_M_isDesk_17 : decode b_M_isDesk 17 = .ok (.ireturn, 1) := by decide +kernel
theorem d_M_isSubject_0 : decode b_M_isSubject 0 = .ok (.iload_n 0, 1) := by decide +kernel
theorem d_M_isSubject_1 : decode b_M_isSubject 1 = .ok (.ifCond .lt 13, 3) := by decide +kernel
theorem d_M_isSubject_4 : decode b_M_isSubject 4 = .ok (.iload_n 0, 1) := by decide +kernel
theorem d_M_isSubject_5 : decode b_M_isSubject 5 = .ok (.bipush 16, 2) := by decide +kernel
theorem d_M_isSubject_7 : decode b_M_isSubject 7 = .ok (.if_icmp .ge 7, 3) := by decide +kernel
theorem d_M_isSubject_10 : decode b_M_isSubject 10 = .ok (.iconst 1, 1) := by decide +kernel
theorem d_M_isSubject_11 : decode b_M_isSubject 11 = .ok (.goto 4, 3) := by decide +kernel
theorem d_M_isSubject_14 : decode b_M_isSubject 14 = .ok (.iconst 0, 1) := by decide +kernel
theorem d_M_isSubject_15 : decode b_M_isSubject 15 = .ok (.ireturn, 1) := by decide +kernel
theorem d_M_desk_0 : decode b_M_desk 0 = .ok (.iload_n 1, 1) := by decide +kernel
theorem d_M_desk_1 : decode b_M_desk 1 = .ok (.iconst 1, 1) := by decide +kernel
theorem d_M_desk_2 : decode b_M_desk 2 = .ok (.bipush 12, 2) := by decide +kernel
theorem d_M_desk_4 : decode b_M_desk 4 = .ok (.invokestatic 53, 3) := by decide +kernel
theorem d_M_desk_7 : decode b_M_desk 7 = .ok (.ifCond .eq 19, 3) := by decide +kernel
theorem d_M_desk_10 : decode b_M_desk 10 = .ok (.iload_n 2, 1) := by decide +kernel
theorem d_M_desk_11 : decode b_M_desk 11 = .ok (.iconst (-1), 1) := by decide +kernel
theorem d_M_desk_12 : decode b_M_desk 12 = .ok (.if_icmp .eq 20, 3) := by decide +kernel
theorem d_M_desk_15 : decode b_M_desk 15 = .ok (.iload_n 2, 1) := by decide +kernel
theorem d_M_desk_16 : decode b_M_desk 16 = .ok (.iconst 0, 1) := by decide +kernel
theorem d_M_desk_17 : decode b_M_desk 17 = .ok (.iload_n 1, 1) := by decide +kernel
theorem d_M_desk_18 : decode b_M_desk 18 = .ok (.iconst 1, 1) := by decide +kernel
theorem d_M_desk_19 : decode b_M_desk 19 = .ok (.isub, 1) := by decide +kernel
theorem d_M_desk_20 : decode b_M_desk 20 = .ok (.invokestatic 53, 3) := by decide +kernel
theorem d_M_desk_23 : decode b_M_desk 23 = .ok (.ifCond .ne 9, 3) := by decide +kernel
theorem d_M_desk_26 : decode b_M_desk 26 = .ok (.aload_n 0, 1) := by decide +kernel
theorem d_M_desk_27 : decode b_M_desk 27 = .ok (.iconst 1, 1) := by decide +kernel
theorem d_M_desk_28 : decode b_M_desk 28 = .ok (.invokevirtual 57, 3) := by decide +kernel
theorem d_M_desk_31 : decode b_M_desk 31 = .ok (.ireturn, 1) := by decide +kernel
theorem d_M_desk_32 : decode b_M_desk 32 = .ok (.aload_n 0, 1) := by decide +kernel
theorem d_M_desk_33 : decode b_M_desk 33 = .ok (.getfield 50, 3) := by decide +kernel
theorem d_M_desk_36 : decode b_M_desk 36 = .ok (.bipush 8, 2) := by decide +kernel
theorem d_M_desk_38 : decode b_M_desk 38 = .ok (.if_icmp .eq 10, 3) := by decide +kernel
theorem d_M_desk_41 : decode b_M_desk 41 = .ok (.aload_n 0, 1) := by decide +kernel
theorem d_M_desk_42 : decode b_M_desk 42 = .ok (.getfield 61, 3) := by decide +kernel
theorem d_M_desk_45 : decode b_M_desk 45 = .ok (.ifCond .eq 9, 3) := by decide +kernel
theorem d_M_desk_48 : decode b_M_desk 48 = .ok (.aload_n 0, 1) := by decide +kernel
theorem d_M_desk_49 : decode b_M_desk 49 = .ok (.iconst 2, 1) := by decide +kernel
theorem d_M_desk_50 : decode b_M_desk 50 = .ok (.invokevirtual 57, 3) := by decide +kernel
theorem d_M_desk_53 : decode b_M_desk 53 = .ok (.ireturn, 1) := by decide +kernel
theorem d_M_desk_54 : decode b_M_desk 54 = .ok (.aload_n 0, 1) := by decide +kernel
theorem d_M_desk_55 : decode b_M_desk 55 = .ok (.iconst 0, 1) := by decide +kernel
theorem d_M_desk_56 : decode b_M_desk 56 = .ok (.putfield 46, 3) := by decide +kernel
theorem d_M_desk_59 : decode b_M_desk 59 = .ok (.aload_n 0, 1) := by decide +kernel
theorem d_M_desk_60 : decode b_M_desk 60 = .ok (.getfield 7, 3) := by decide +kernel
theorem d_M_desk_63 : decode b_M_desk 63 = .ok (.aload_n 0, 1) := by decide +kernel
theorem d_M_desk_64 : decode b_M_desk 64 = .ok (.getfield 50, 3) := by decide +kernel
theorem d_M_desk_67 : decode b_M_desk 67 = .ok (.iload_n 1, 1) := by decide +kernel
theorem d_M_desk_68 : decode b_M_desk 68 = .ok (.iastore, 1) := by decide +kernel
theorem d_M_desk_69 : decode b_M_desk 69 = .ok (.aload_n 0, 1) := by decide +kernel
theorem d_M_desk_70 : decode b_M_desk 70 = .ok (.getfield 13, 3) := by decide +kernel
theorem d_M_desk_73 : decode b_M_desk 73 = .ok (.aload_n 0, 1) := by decide +kernel
theorem d_M_desk_74 : decode b_M_desk 74 = .ok (.getfield 50, 3) := by decide +kernel
theorem d_M_desk_77 : decode b_M_desk 77 = .ok (.iload_n 2, 1) := by decide +kernel
theorem d_M_desk_78 : decode b_M_desk 78 = .ok (.iastore, 1) := by decide +kernel
theorem d_M_desk_79 : decode b_M_desk 79 = .ok (.aload_n 0, 1) := by decide +kernel
theorem d_M_desk_80 : decode b_M_desk 80 = .ok (.getfield 34, 3) := by decide +kernel
theorem d_M_desk_83 : decode b_M_desk 83 = .ok (.aload_n 0, 1) := by decide +kernel
theorem d_M_desk_84 : decode b_M_desk 84 = .ok (.getfield 50, 3) := by decide +kernel
theorem d_M_desk_87 : decode b_M_desk 87 = .ok (.iconst (-1), 1) := by decide +kernel
theorem d_M_desk_88 : decode b_M_desk 88 = .ok (.iastore, 1) := by decide +kernel
theorem d_M_desk_89 : decode b_M_desk 89 = .ok (.aload_n 0, 1) := by decide +kernel
theorem d_M_desk_90 : decode b_M_desk 90 = .ok (.dup, 1) := by decide +kernel
theorem d_M_desk_91 : decode b_M_desk 91 = .ok (.getfield 50, 3) := by decide +kernel
theorem d_M_desk_94 : decode b_M_desk 94 = .ok (.iconst 1, 1) := by decide +kernel
theorem d_M_desk_95 : decode b_M_desk 95 = .ok (.iadd, 1) := by decide +kernel
theorem d_M_desk_96 : decode b_M_desk 96 = .ok (.putfield 50, 3) := by decide +kernel
theorem d_M_desk_99 : decode b_M_desk 99 = .ok (.aload_n 0, 1) := by decide +kernel
theorem d_M_desk_100 : decode b_M_desk 100 = .ok (.getfield 50, 3) := by decide +kernel
theorem d_M_desk_103 : decode b_M_desk 103 = .ok (.iconst 1, 1) := by decide +kernel
theorem d_M_desk_104 : decode b_M_desk 104 = .ok (.isub, 1) := by decide +kernel
theorem d_M_desk_105 : decode b_M_desk 105 = .ok (.ireturn, 1) := by decide +kernel
theorem d_M_held_0 : decode b_M_held 0 = .ok (.iconst 0, 1) := by decide +kernel
theorem d_M_held_1 : decode b_M_held 1 = .ok (.istore_n 2, 1) := by decide +kernel
theorem d_M_held_2 : decode b_M_held 2 = .ok (.iconst 0, 1) := by decide +kernel
theorem d_M_held_3 : decode b_M_held 3 = .ok (.istore_n 3, 1) := by decide +kernel
theorem d_M_held_4 : decode b_M_held 4 = .ok (.iload_n 3, 1) := by decide +kernel
theorem d_M_held_5 : decode b_M_held 5 = .ok (.bipush 16, 2) := by decide +kernel
theorem d_M_held_7 : decode b_M_held 7 = .ok (.if_icmp .ge 29, 3) := by decide +kernel
theorem d_M_held_10 : decode b_M_held 10 = .ok (.iload_n 2, 1) := by decide +kernel
theorem d_M_held_11 : decode b_M_held 11 = .ok (.aload_n 0, 1) := by decide +kernel
theorem d_M_held_12 : decode b_M_held 12 = .ok (.getfield 28, 3) := by decide +kernel
theorem d_M_held_15 : decode b_M_held 15 = .ok (.iload_n 3, 1) := by decide +kernel
theorem d_M_held_16 : decode b_M_held 16 = .ok (.iaload, 1) := by decide +kernel
theorem d_M_held_17 : decode b_M_held 17 = .ok (.iload_n 1, 1) := by decide +kernel
theorem d_M_held_18 : decode b_M_held 18 = .ok (.if_icmp .ne 9, 3) := by decide +kernel
theorem d_M_held_21 : decode b_M_held 21 = .ok (.iconst 1, 1) := by decide +kernel
theorem d_M_held_22 : decode b_M_held 22 = .ok (.iload_n 3, 1) := by decide +kernel
theorem d_M_held_23 : decode b_M_held 23 = .ok (.ishl, 1) := by decide +kernel
theorem d_M_held_24 : decode b_M_held 24 = .ok (.goto 4, 3) := by decide +kernel
theorem d_M_held_27 : decode b_M_held 27 = .ok (.iconst 0, 1) := by decide +kernel
theorem d_M_held_28 : decode b_M_held 28 = .ok (.ior, 1) := by decide +kernel
theorem d_M_held_29 : decode b_M_held 29 = .ok (.istore_n 2, 1) := by decide +kernel
theorem d_M_held_30 : decode b_M_held 30 = .ok (.iinc 3 1, 3) := by decide +kernel
theorem d_M_held_33 : decode b_M_held 33 = .ok (.goto (-29), 3) := by decide +kernel
theorem d_M_held_36 : decode b_M_held 36 = .ok (.iload_n 2, 1) := by decide +kernel
theorem d_M_held_37 : decode b_M_held 37 = .ok (.ireturn, 1) := by decide +kernel
theorem d_M_ones_0 : decode b_M_ones 0 = .ok (.iconst 0, 1) := by decide +kernel
theorem d_M_ones_1 : decode b_M_ones 1 = .ok (.istore_n 1, 1) := by decide +kernel
theorem d_M_ones_2 : decode b_M_ones 2 = .ok (.iconst 0, 1) := by decide +kernel
theorem d_M_ones_3 : decode b_M_ones 3 = .ok (.istore_n 2, 1) := by decide +kernel
theorem d_M_ones_4 : decode b_M_ones 4 = .ok (.iload_n 2, 1) := by decide +kernel
theorem d_M_ones_5 : decode b_M_ones 5 = .ok (.bipush 16, 2) := by decide +kernel
theorem d_M_ones_7 : decode b_M_ones 7 = .ok (.if_icmp .ge 17, 3) := by decide +kernel
theorem d_M_ones_10 : decode b_M_ones 10 = .ok (.iload_n 1, 1) := by decide +kernel
theorem d_M_ones_11 : decode b_M_ones 11 = .ok (.iload_n 0, 1) := by decide +kernel
theorem d_M_ones_12 : decode b_M_ones 12 = .ok (.iload_n 2, 1) := by decide +kernel
theorem d_M_ones_13 : decode b_M_ones 13 = .ok (.ishr, 1) := by decide +kernel
theorem d_M_ones_14 : decode b_M_ones 14 = .ok (.iconst 1, 1) := by decide +kernel
theorem d_M_ones_15 : decode b_M_ones 15 = .ok (.iand, 1) := by decide +kernel
theorem d_M_ones_16 : decode b_M_ones 16 = .ok (.iadd, 1) := by decide +kernel
theorem d_M_ones_17 : decode b_M_ones 17 = .ok (.istore_n 1, 1) := by decide +kernel
theorem d_M_ones_18 : decode b_M_ones 18 = .ok (.iinc 2 1, 3) := by decide +kernel
theorem d_M_ones_21 : decode b_M_ones 21 = .ok (.goto (-17), 3) := by decide +kernel
theorem d_M_ones_24 : decode b_M_ones 24 = .ok (.iload_n 1, 1) := by decide +kernel
theorem d_M_ones_25 : decode b_M_ones 25 = .ok (.ireturn, 1) := by decide +kernel
theorem d_M_isMidst_0 : decode b_M_isMidst 0 = .ok (.aload_n 0, 1) := by decide +kernel
theorem d_M_isMidst_1 : decode b_M_isMidst 1 = .ok (.iload_n 1, 1) := by decide +kernel
theorem d_M_isMidst_2 : decode b_M_isMidst 2 = .ok (.invokevirtual 65, 3) := by decide +kernel
theorem d_M_isMidst_5 : decode b_M_isMidst 5 = .ok (.ifCond .ne 13, 3) := by decide +kernel
theorem d_M_isMidst_8 : decode b_M_isMidst 8 = .ok (.aload_n 0, 1) := by decide +kernel
theorem d_M_isMidst_9 : decode b_M_isMidst 9 = .ok (.getfield 34, 3) := by decide +kernel
theorem d_M_isMidst_12 : decode b_M_isMidst 12 = .ok (.iload_n 1, 1) := by decide +kernel
theorem d_M_isMidst_13 : decode b_M_isMidst 13 = .ok (.iaload, 1) := by decide +kernel
theorem d_M_isMidst_14 : decode b_M_isMidst 14 = .ok (.iconst (-1), 1) := by decide +kernel
theorem d_M_isMidst_15 : decode b_M_isMidst 15 = .ok (.if_icmp .eq 7, 3) := by decide +kernel
theorem d_M_isMidst_18 : decode b_M_isMidst 18 = .ok (.iconst 1, 1) := by decide +kernel
theorem d_M_isMidst_19 : decode b_M_isMidst 19 = .ok (.goto 4, 3) := by decide +kernel
theorem d_M_isMidst_22 : decode b_M_isMidst 22 = .ok (.iconst 0, 1) := by decide +kernel
theorem d_M_isMidst_23 : decode b_M_isMidst 23 = .ok (.ireturn, 1) := by decide +kernel
theorem d_M_needs_0 : decode b_M_needs 0 = .ok (.aload_n 0, 1) := by decide +kernel
theorem d_M_needs_1 : decode b_M_needs 1 = .ok (.iconst 0, 1) := by decide +kernel
theorem d_M_needs_2 : decode b_M_needs 2 = .ok (.putfield 46, 3) := by decide +kernel
theorem d_M_needs_5 : decode b_M_needs 5 = .ok (.aload_n 0, 1) := by decide +kernel
theorem d_M_needs_6 : decode b_M_needs 6 = .ok (.iload_n 1, 1) := by decide +kernel
theorem d_M_needs_7 : decode b_M_needs 7 = .ok (.invokevirtual 68, 3) := by decide +kernel
theorem d_M_needs_10 : decode b_M_needs 10 = .ok (.ifCond .eq 45, 3) := by decide +kernel
theorem d_M_needs_13 : decode b_M_needs 13 = .ok (.iload_n 3, 1) := by decide +kernel
theorem d_M_needs_14 : decode b_M_needs 14 = .ok (.invokestatic 72, 3) := by decide +kernel
theorem d_M_needs_17 : decode b_M_needs 17 = .ok (.ifCond .eq 38, 3) := by decide +kernel
theorem d_M_needs_20 : decode b_M_needs 20 = .ok (.iload_n 2, 1) := by decide +kernel
theorem d_M_needs_21 : decode b_M_needs 21 = .ok (.iconst 0, 1) := by decide +kernel
theorem d_M_needs_22 : decode b_M_needs 22 = .ok (.aload_n 0, 1) := by decide +kernel
theorem d_M_needs_23 : decode b_M_needs 23 = .ok (.getfield 7, 3) := by decide +kernel
theorem d_M_needs_26 : decode b_M_needs 26 = .ok (.aload_n 0, 1) := by decide +kernel
theorem d_M_needs_27 : decode b_M_needs 27 = .ok (.iload_n 1, 1) := by decide +kernel
theorem d_M_needs_28 : decode b_M_needs 28 = .ok (.invokevirtual 68, 3) := by decide +kernel
theorem d_M_needs_31 : decode b_M_needs 31 = .ok (.ifCond .eq 7, 3) := by decide +kernel
theorem d_M_needs_34 : decode b_M_needs 34 = .ok (.iload_n 1, 1) := by decide +kernel
theorem d_M_needs_35 : decode b_M_needs 35 = .ok (.goto 4, 3) := by decide +kernel
theorem d_M_needs_38 : decode b_M_needs 38 = .ok (.iconst 0, 1) := by decide +kernel
theorem d_M_needs_39 : decode b_M_needs 39 = .ok (.iaload, 1) := by decide +kernel
theorem d_M_needs_40 : decode b_M_needs 40 = .ok (.iconst 1, 1) := by decide +kernel
theorem d_M_needs_41 : decode b_M_needs 41 = .ok (.isub, 1) := by decide +kernel
theorem d_M_needs_42 : decode b_M_needs 42 = .ok (.invokestatic 53, 3) := by decide +kernel
theorem d_M_needs_45 : decode b_M_needs 45 = .ok (.ifCond .eq 10, 3) := by decide +kernel
theorem d_M_needs_48 : decode b_M_needs 48 = .ok (.aload_n 0, 1) := by decide +kernel
theorem d_M_needs_49 : decode b_M_needs 49 = .ok (.getfield 61, 3) := by decide +kernel
theorem d_M_needs_52 : decode b_M_needs 52 = .ok (.ifCond .eq 5, 3) := by decide +kernel
theorem d_M_needs_55 : decode b_M_needs 55 = .ok (.iconst 0, 1) := by decide +kernel
theorem d_M_needs_56 : decode b_M_needs 56 = .ok (.ireturn, 1) := by decide +kernel
theorem d_M_needs_57 : decode b_M_needs 57 = .ok (.bipush 12, 2) := by decide +kernel
theorem d_M_needs_59 : decode b_M_needs 59 = .ok (.iload_n 1, 1) := by decide +kernel
theorem d_M_needs_60 : decode b_M_needs 60 = .ok (.imul, 1) := by decide +kernel
theorem d_M_needs_61 : decode b_M_needs 61 = .ok (.iload_n 2, 1) := by decide +kernel
theorem d_M_needs_62 : decode b_M_needs 62 = .ok (.iadd, 1) := by decide +kernel
theorem d_M_needs_63 : decode b_M_needs 63 = .ok (.istore 4, 2) := by decide +kernel
theorem d_M_needs_65 : decode b_M_needs 65 = .ok (.aload_n 0, 1) := by decide +kernel
theorem d_M_needs_66 : decode b_M_needs 66 = .ok (.getfield 25, 3) := by decide +kernel
theorem d_M_needs_69 : decode b_M_needs 69 = .ok (.iload 4, 2) := by decide +kernel
theorem d_M_needs_71 : decode b_M_needs 71 = .ok (.iaload, 1) := by decide +kernel
theorem d_M_needs_72 : decode b_M_needs 72 = .ok (.iload_n 3, 1) := by decide +kernel
theorem d_M_needs_73 : decode b_M_needs 73 = .ok (.ishr, 1) := by decide +kernel
theorem d_M_needs_74 : decode b_M_needs 74 = .ok (.iconst 1, 1) := by decide +kernel
theorem d_M_needs_75 : decode b_M_needs 75 = .ok (.iand, 1) := by decide +kernel
theorem d_M_needs_76 : decode b_M_needs 76 = .ok (.iconst 1, 1) := by decide +kernel
theorem d_M_needs_77 : decode b_M_needs 77 = .ok (.if_icmp .eq 31, 3) := by decide +kernel
theorem d_M_needs_80 : decode b_M_needs 80 = .ok (.iload_n 2, 1) := by decide +kernel
theorem d_M_needs_81 : decode b_M_needs 81 = .ok (.aload_n 0, 1) := by decide +kernel
theorem d_M_needs_82 : decode b_M_needs 82 = .ok (.getfield 16, 3) := by decide +kernel
theorem d_M_needs_85 : decode b_M_needs 85 = .ok (.iload_n 1, 1) := by decide +kernel
theorem d_M_needs_86 : decode b_M_needs 86 = .ok (.iaload, 1) := by decide +kernel
theorem d_M_needs_87 : decode b_M_needs 87 = .ok (.if_icmp .lt 21, 3) := by decide +kernel
theorem d_M_needs_90 : decode b_M_needs 90 = .ok (.iload_n 2, 1) := by decide +kernel
theorem d_M_needs_91 : decode b_M_needs 91 = .ok (.aload_n 0, 1) := by decide +kernel
theorem d_M_needs_92 : decode b_M_needs 92 = .ok (.getfield 16, 3) := by decide +kernel
theorem d_M_needs_95 : decode b_M_needs 95 = .ok (.iload_n 1, 1) := by decide +kernel
theorem d_M_needs_96 : decode b_M_needs 96 = .ok (.iaload, 1) := by decide +kernel
theorem d_M_needs_97 : decode b_M_needs 97 = .ok (.if_icmp .ne 13, 3) := by decide +kernel
theorem d_M_needs_100 : decode b_M_needs 100 = .ok (.aload_n 0, 1) := by decide +kernel
