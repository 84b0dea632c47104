theorem d_K_init_0 : decode b_K_init 0 = .ok (.aload_n 0, 1) := by decide +kernel
theorem d_K_init_1 : decode b_K_init 1 = .ok (.invokespecial 1, 3) := by decide +kernel
theorem d_K_init_4 : decode b_K_init 4 = .ok (.aload_n 0, 1) := by decide +kernel
theorem d_K_init_5 : decode b_K_init 5 = .ok (.bipush 8, 2) := by decide +kernel
theorem d_K_init_7 : decode b_K_init 7 = .ok (.anewarray 9, 3) := by decide +kernel
theorem d_K_init_10 : decode b_K_init 10 = .ok (.putfield 11, 3) := by decide +kernel
theorem d_K_init_13 : decode b_K_init 13 = .ok (.aload_n 0, 1) := by decide +kernel
theorem d_K_init_14 : decode b_K_init 14 = .ok (.iconst 0, 1) := by decide +kernel
theorem d_K_init_15 : decode b_K_init 15 = .ok (.putfield 15, 3) := by decide +kernel
theorem d_K_init_18 : decode b_K_init 18 = .ok (.aload_n 0, 1) := by decide +kernel
theorem d_K_init_19 : decode b_K_init 19 = .ok (.bipush 16, 2) := by decide +kernel
theorem d_K_init_21 : decode b_K_init 21 = .ok (.newarray .int, 2) := by decide +kernel
theorem d_K_init_23 : decode b_K_init 23 = .ok (.putfield 19, 3) := by decide +kernel
theorem d_K_init_26 : decode b_K_init 26 = .ok (.aload_n 0, 1) := by decide +kernel
theorem d_K_init_27 : decode b_K_init 27 = .ok (.bipush 16, 2) := by decide +kernel
theorem d_K_init_29 : decode b_K_init 29 = .ok (.newarray .int, 2) := by decide +kernel
theorem d_K_init_31 : decode b_K_init 31 = .ok (.putfield 23, 3) := by decide +kernel
theorem d_K_init_34 : decode b_K_init 34 = .ok (.aload_n 0, 1) := by decide +kernel
theorem d_K_init_35 : decode b_K_init 35 = .ok (.iconst 0, 1) := by decide +kernel
theorem d_K_init_36 : decode b_K_init 36 = .ok (.putfield 26, 3) := by decide +kernel
theorem d_K_init_39 : decode b_K_init 39 = .ok (.aload_n 0, 1) := by decide +kernel
theorem d_K_init_40 : decode b_K_init 40 = .ok (.sipush 300, 3) := by decide +kernel
theorem d_K_init_43 : decode b_K_init 43 = .ok (.newarray .int, 2) := by decide +kernel
theorem d_K_init_45 : decode b_K_init 45 = .ok (.putfield 29, 3) := by decide +kernel
theorem d_K_init_48 : decode b_K_init 48 = .ok (.aload_n 0, 1) := by decide +kernel
theorem d_K_init_49 : decode b_K_init 49 = .ok (.iconst 0, 1) := by decide +kernel
theorem d_K_init_50 : decode b_K_init 50 = .ok (.putfield 32, 3) := by decide +kernel
theorem d_K_init_53 : decode b_K_init 53 = .ok (.aload_n 0, 1) := by decide +kernel
theorem d_K_init_54 : decode b_K_init 54 = .ok (.iconst 0, 1) := by decide +kernel
theorem d_K_init_55 : decode b_K_init 55 = .ok (.putfield 35, 3) := by decide +kernel
theorem d_K_init_58 : decode b_K_init 58 = .ok (.aload_n 0, 1) := by decide +kernel
theorem d_K_init_59 : decode b_K_init 59 = .ok (.iconst 0, 1) := by decide +kernel
theorem d_K_init_60 : decode b_K_init 60 = .ok (.putfield 38, 3) := by decide +kernel
theorem d_K_init_63 : decode b_K_init 63 = .ok (.aload_n 0, 1) := by decide +kernel
theorem d_K_init_64 : decode b_K_init 64 = .ok (.sipush 400, 3) := by decide +kernel
theorem d_K_init_67 : decode b_K_init 67 = .ok (.newarray .int, 2) := by decide +kernel
theorem d_K_init_69 : decode b_K_init 69 = .ok (.putfield 41, 3) := by decide +kernel
theorem d_K_init_72 : decode b_K_init 72 = .ok (.aload_n 0, 1) := by decide +kernel
theorem d_K_init_73 : decode b_K_init 73 = .ok (.iconst 0, 1) := by decide +kernel
theorem d_K_init_74 : decode b_K_init 74 = .ok (.putfield 44, 3) := by decide +kernel
theorem d_K_init_77 : decode b_K_init 77 = .ok (.aload_n 0, 1) := by decide +kernel
theorem d_K_init_78 : decode b_K_init 78 = .ok (.iconst 0, 1) := by decide +kernel
theorem d_K_init_79 : decode b_K_init 79 = .ok (.putfield 47, 3) := by decide +kernel
theorem d_K_init_82 : decode b_K_init 82 = .ok (.aload_n 0, 1) := by decide +kernel
theorem d_K_init_83 : decode b_K_init 83 = .ok (.iconst 0, 1) := by decide +kernel
theorem d_K_init_84 : decode b_K_init 84 = .ok (.putfield 50, 3) := by decide +kernel
theorem d_K_init_87 : decode b_K_init 87 = .ok (.aload_n 0, 1) := by decide +kernel
theorem d_K_init_88 : decode b_K_init 88 = .ok (.getfield 19, 3) := by decide +kernel
theorem d_K_init_91 : decode b_K_init 91 = .ok (.iconst (-1), 1) := by decide +kernel
theorem d_K_init_92 : decode b_K_init 92 = .ok (.invokestatic 54, 3) := by decide +kernel
theorem d_K_init_95 : decode b_K_init 95 = .ok (.return_, 1) := by decide +kernel
theorem d_K_desk_0 : decode b_K_desk 0 = .ok (.iload_n 1, 1) := by decide +kernel
theorem d_K_desk_1 : decode b_K_desk 1 = .ok (.iconst 1, 1) := by decide +kernel
theorem d_K_desk_2 : decode b_K_desk 2 = .ok (.if_icmp .lt 9, 3) := by decide +kernel
theorem d_K_desk_5 : decode b_K_desk 5 = .ok (.iload_n 1, 1) := by decide +kernel
theorem d_K_desk_6 : decode b_K_desk 6 = .ok (.bipush 12, 2) := by decide +kernel
theorem d_K_desk_8 : decode b_K_desk 8 = .ok (.if_icmp .le 13, 3) := by decide +kernel
theorem d_K_desk_11 : decode b_K_desk 11 = .ok (.new 60, 3) := by decide +kernel
theorem d_K_desk_14 : decode b_K_desk 14 = .ok (.dup, 1) := by decide +kernel
theorem d_K_desk_15 : decode b_K_desk 15 = .ok (.ldc 62, 2) := by decide +kernel
theorem d_K_desk_17 : decode b_K_desk 17 = .ok (.invokespecial 64, 3) := by decide +kernel
theorem d_K_desk_20 : decode b_K_desk 20 = .ok (.athrow, 1) := by decide +kernel
theorem d_K_desk_21 : decode b_K_desk 21 = .ok (.iload_n 2, 1) := by decide +kernel
theorem d_K_desk_22 : decode b_K_desk 22 = .ok (.iconst (-1), 1) := by decide +kernel
theorem d_K_desk_23 : decode b_K_desk 23 = .ok (.if_icmp .lt 8, 3) := by decide +kernel
theorem d_K_desk_26 : decode b_K_desk 26 = .ok (.iload_n 2, 1) := by decide +kernel
theorem d_K_desk_27 : decode b_K_desk 27 = .ok (.iload_n 1, 1) := by decide +kernel
theorem d_K_desk_28 : decode b_K_desk 28 = .ok (.if_icmp .lt 13, 3) := by decide +kernel
theorem d_K_desk_31 : decode b_K_desk 31 = .ok (.new 60, 3) := by decide +kernel
theorem d_K_desk_34 : decode b_K_desk 34 = .ok (.dup, 1) := by decide +kernel
theorem d_K_desk_35 : decode b_K_desk 35 = .ok (.ldc 67, 2) := by decide +kernel
theorem d_K_desk_37 : decode b_K_desk 37 = .ok (.invokespecial 64, 3) := by decide +kernel
theorem d_K_desk_40 : decode b_K_desk 40 = .ok (.athrow, 1) := by decide +kernel
theorem d_K_desk_41 : decode b_K_desk 41 = .ok (.aload_n 0, 1) := by decide +kernel
theorem d_K_desk_42 : decode b_K_desk 42 = .ok (.getfield 50, 3) := by decide +kernel
theorem d_K_desk_45 : decode b_K_desk 45 = .ok (.ifCond .ne 12, 3) := by decide +kernel
theorem d_K_desk_48 : decode b_K_desk 48 = .ok (.aload_n 0, 1) := by decide +kernel
theorem d_K_desk_49 : decode b_K_desk 49 = .ok (.getfield 15, 3) := by decide +kernel
theorem d_K_desk_52 : decode b_K_desk 52 = .ok (.bipush 8, 2) := by decide +kernel
theorem d_K_desk_54 : decode b_K_desk 54 = .ok (.if_icmp .lt 13, 3) := by decide +kernel
theorem d_K_desk_57 : decode b_K_desk 57 = .ok (.new 69, 3) := by decide +kernel
theorem d_K_desk_60 : decode b_K_desk 60 = .ok (.dup, 1) := by decide +kernel
theorem d_K_desk_61 : decode b_K_desk 61 = .ok (.ldc 71, 2) := by decide +kernel
theorem d_K_desk_63 : decode b_K_desk 63 = .ok (.invokespecial 73, 3) := by decide +kernel
theorem d_K_desk_66 : decode b_K_desk 66 = .ok (.athrow, 1) := by decide +kernel
theorem d_K_desk_67 : decode b_K_desk 67 = .ok (.aload_n 0, 1) := by decide +kernel
theorem d_K_desk_68 : decode b_K_desk 68 = .ok (.getfield 15, 3) := by decide +kernel
theorem d_K_desk_71 : decode b_K_desk 71 = .ok (.istore_n 3, 1) := by decide +kernel
theorem d_K_desk_72 : decode b_K_desk 72 = .ok (.aload_n 0, 1) := by decide +kernel
theorem d_K_desk_73 : decode b_K_desk 73 = .ok (.getfield 11, 3) := by decide +kernel
theorem d_K_desk_76 : decode b_K_desk 76 = .ok (.iload_n 3, 1) := by decide +kernel
theorem d_K_desk_77 : decode b_K_desk 77 = .ok (.new 9, 3) := by decide +kernel
theorem d_K_desk_80 : decode b_K_desk 80 = .ok (.dup, 1) := by decide +kernel
theorem d_K_desk_81 : decode b_K_desk 81 = .ok (.iload_n 3, 1) := by decide +kernel
theorem d_K_desk_82 : decode b_K_desk 82 = .ok (.iload_n 1, 1) := by decide +kernel
theorem d_K_desk_83 : decode b_K_desk 83 = .ok (.iload_n 2, 1) := by decide +kernel
theorem d_K_desk_84 : decode b_K_desk 84 = .ok (.invokespecial 74, 3) := by decide +kernel
theorem d_K_desk_87 : decode b_K_desk 87 = .ok (.aastore, 1) := by decide +kernel
theorem d_K_desk_88 : decode b_K_desk 88 = .ok (.aload_n 0, 1) := by decide +kernel
theorem d_K_desk_89 : decode b_K_desk 89 = .ok (.dup, 1) := by decide +kernel
theorem d_K_desk_90 : decode b_K_desk 90 = .ok (.getfield 15, 3) := by decide +kernel
theorem d_K_desk_93 : decode b_K_desk 93 = .ok (.iconst 1, 1) := by decide +kernel
theorem d_K_desk_94 : decode b_K_desk 94 = .ok (.iadd, 1) := by decide +kernel
theorem d_K_desk_95 : decode b_K_desk 95 = .ok (.putfield 15, 3) := by decide +kernel
theorem d_K_desk_98 : decode b_K_desk 98 = .ok (.iload_n 3, 1) := by decide +kernel
theorem d_K_desk_99 : decode b_K_desk 99 = .ok (.ireturn, 1) := by decide +kernel
theorem d_K_needs_0 : decode b_K_needs 0 = .ok (.aload_n 0, 1) := by decide +kernel
theorem d_K_needs_1 : decode b_K_needs 1 = .ok (.iload_n 1, 1) := by decide +kernel
theorem d_K_needs_2 : decode b_K_needs 2 = .ok (.invokevirtual 77, 3) := by decide +kernel
theorem d_K_needs_5 : decode b_K_needs 5 = .ok (.astore 4, 2) := by decide +kernel
theorem d_K_needs_7 : decode b_K_needs 7 = .ok (.aload_n 0, 1) := by decide +kernel
theorem d_K_needs_8 : decode b_K_needs 8 = .ok (.getfield 50, 3) := by decide +kernel
theorem d_K_needs_11 : decode b_K_needs 11 = .ok (.ifCond .ne 15, 3) := by decide +kernel
theorem d_K_needs_14 : decode b_K_needs 14 = .ok (.aload 4, 2) := by decide +kernel
theorem d_K_needs_16 : decode b_K_needs 16 = .ok (.ifnull 10, 3) := by decide +kernel
theorem d_K_needs_19 : decode b_K_needs 19 = .ok (.iload_n 3, 1) := by decide +kernel
theorem d_K_needs_20 : decode b_K_needs 20 = .ok (.invokestatic 81, 3) := by decide +kernel
theorem d_K_needs_23 : decode b_K_needs 23 = .ok (.ifCond .ne 5, 3) := by decide +kernel
theorem d_K_needs_26 : decode b_K_needs 26 = .ok (.iconst 0, 1) := by decide +kernel
theorem d_K_needs_27 : decode b_K_needs 27 = .ok (.ireturn, 1) := by decide +kernel
theorem d_K_needs_28 : decode b_K_needs 28 = .ok (.aload 4, 2) := by decide +kernel
theorem d_K_needs_30 : decode b_K_needs 30 = .ok (.iload_n 2, 1) := by decide +kernel
theorem d_K_needs_31 : decode b_K_needs 31 = .ok (.invokevirtual 85, 3) := by decide +kernel
theorem d_K_needs_34 : decode b_K_needs 34 = .ok (.ifCond .eq 13, 3) := by decide +kernel
theorem d_K_needs_37 : decode b_K_needs 37 = .ok (.aload 4, 2) := by decide +kernel
theorem d_K_needs_39 : decode b_K_needs 39 = .ok (.iload_n 2, 1) := by decide +kernel
theorem d_K_needs_40 : decode b_K_needs 40 = .ok (.iload_n 3, 1) := by decide +kernel
theorem d_K_needs_41 : decode b_K_needs 41 = .ok (.invokevirtual 88, 3) := by decide +kernel
theorem d_K_needs_44 : decode b_K_needs 44 = .ok (.ifCond .eq 5, 3) := by decide +kernel
theorem d_K_needs_47 : decode b_K_needs 47 = .ok (.iconst 0, 1) := by decide +kernel
theorem d_K_needs_48 : decode b_K_needs 48 = .ok (.ireturn, 1) := by decide +kernel
theorem d_K_needs_49 : decode b_K_needs 49 = .ok (.iload_n 2, 1) := by decide +kernel
theorem d_K_needs_50 : decode b_K_needs 50 = .ok (.aload 4, 2) := by decide +kernel
theorem d_K_needs_52 : decode b_K_needs 52 = .ok (.getfield 92, 3) := by decide +kernel
theorem d_K_needs_55 : decode b_K_needs 55 = .ok (.if_icmp .ne 14, 3) := by decide +kernel
theorem d_K_needs_58 : decode b_K_needs 58 = .ok (.aload_n 0, 1) := by decide +kernel
theorem d_K_needs_59 : decode b_K_needs 59 = .ok (.aload 4, 2) := by decide +kernel
theorem d_K_needs_61 : decode b_K_needs 61 = .ok (.invokevirtual 95, 3) := by decide +kernel
theorem d_K_needs_64 : decode b_K_needs 64 = .ok (.ifCond .eq 5, 3) := by decide +kernel
theorem d_K_needs_67 : decode b_K_needs 67 = .ok (.iconst 0, 1) := by decide +kernel
theorem d_K_needs_68 : decode b_K_needs 68 = .ok (.ireturn, 1) := by decide +kernel
theorem d_K_needs_69 : decode b_K_needs 69 = .ok (.aload 4, 2) := by decide +kernel
theorem d_K_needs_71 : decode b_K_needs 71 = .ok (.iload_n 2, 1) := by decide +kernel
theorem d_K_needs_72 : decode b_K_needs 72 = .ok (.iload_n 3, 1) := by decide +kernel
theorem d_K_needs_73 : decode b_K_needs 73 = .ok (.invokevirtual 99, 3) := by decide +kernel
theorem d_K_needs_76 : decode b_K_needs 76 = .ok (.iconst 1, 1) := by decide +kernel
theorem d_K_needs_77 : decode b_K_needs 77 = .ok (.ireturn, 1) := by decide +kernel
theorem d_K_turn_0 : decode b_K_turn 0 = .ok (.aload_n 0, 1) := by decide +kernel
theorem d_K_turn_1 : decode b_K_turn 1 = .ok (.iload_n 1, 1) := by decide +kernel
theorem d_K_turn_2 : decode b_K_turn 2 = .ok (.invokevirtual 77, 3) := by decide +kernel
theorem d_K_turn_5 : decode b_K_turn 5 = .ok (.ifnonnull 13, 3) := by decide +kernel
theorem d_K_turn_8 : decode b_K_turn 8 = .ok (.new 60, 3) := by decide +kernel
theorem d_K_turn_11 : decode b_K_turn 11 = .ok (.dup, 1) := by decide +kernel
theorem d_K_turn_12 : decode b_K_turn 12 = .ok (.ldc 103, 2) := by decide +kernel
theorem d_K_turn_14 : decode b_K_turn 14 = .ok (.invokespecial 64, 3) := by decide +kernel
theorem d_K_turn_17 : decode b_K_turn 17 = .ok (.athrow, 1) := by decide +kernel
theorem d_K_turn_18 : decode b_K_turn 18 = .ok (.aload_n 0, 1) := by decide +kernel
theorem d_K_turn_19 : decode b_K_turn 19 = .ok (.getfield 50, 3) := by decide +kernel
theorem d_K_turn_22 : decode b_K_turn 22 = .ok (.ifCond .ne 13, 3) := by decide +kernel
theorem d_K_turn_25 : decode b_K_turn 25 = .ok (.aload_n 0, 1) := by decide +kernel
theorem d_K_turn_26 : decode b_K_turn 26 = .ok (.getfield 32, 3) := by decide +kernel
theorem d_K_turn_29 : decode b_K_turn 29 = .ok (.sipush 300, 3) := by decide +kernel
theorem d_K_turn_32 : decode b_K_turn 32 = .ok (.if_icmp .lt 13, 3) := by decide +kernel
theorem d_K_turn_35 : decode b_K_turn 35 = .ok (.new 69, 3) := by decide +kernel
theorem d_K_turn_38 : decode b_K_turn 38 = .ok (.dup, 1) := by decide +kernel
theorem d_K_turn_39 : decode b_K_turn 39 = .ok (.ldc 105, 2) := by decide +kernel
theorem d_K_turn_41 : decode b_K_turn 41 = .ok (.invokespecial 73, 3) := by decide +kernel
theorem d_K_turn_44 : decode b_K_turn 44 = .ok (.athrow, 1) := by decide +kernel
theorem d_K_turn_45 : decode b_K_turn 45 = .ok (.aload_n 0, 1) := by decide +kernel
theorem d_K_turn_46 : decode b_K_turn 46 = .ok (.getfield 29, 3) := by decide +kernel
theorem d_K_turn_49 : decode b_K_turn 49 = .ok (.aload_n 0, 1) := by decide +kernel
theorem d_K_turn_50 : decode b_K_turn 50 = .ok (.getfield 32, 3) := by decide +kernel
theorem d_K_turn_53 : decode b_K_turn 53 = .ok (.iload_n 1, 1) := by decide +kernel
theorem d_K_turn_54 : decode b_K_turn 54 = .ok (.iastore, 1) := by decide +kernel
theorem d_K_turn_55 : decode b_K_turn 55 = .ok (.aload_n 0, 1) := by decide +kernel
theorem d_K_turn_56 : decode b_K_turn 56 = .ok (.dup, 1) := by decide +kernel
theorem d_K_turn_57 : decode b_K_turn 57 = .ok (.getfield 32, 3) := by decide +kernel
theorem d_K_turn_60 : decode b_K_turn 60 = .ok (.iconst 1, 1) := by decide +kernel
theorem d_K_turn_61 : decode b_K_turn 61 = .ok (.iadd, 1) := by decide +kernel
theorem d_K_turn_62 : decode b_K_turn 62 = .ok (.putfield 32, 3) := by decide +kernel
theorem d_K_turn_65 : decode b_K_turn 65 = .ok (.aload_n 0, 1) := by decide +kernel
theorem d_K_turn_66 : decode b_K_turn 66 = .ok (.getfield 32, 3) := by decide +kernel
theorem d_K_turn_69 : decode b_K_turn 69 = .ok (.aload_n 0, 1) := by decide +kernel
theorem d_K_turn_70 : decode b_K_turn 70 = .ok (.getfield 35, 3) := by decide +kernel
theorem d_K_turn_73 : decode b_K_turn 73 = .ok (.isub, 1) := by decide +kernel
theorem d_K_turn_74 : decode b_K_turn 74 = .ok (.ireturn, 1) := by decide +kernel
theorem d_K_run_0 : decode b_K_run 0 = .ok (.aload_n 0, 1) := by decide +kernel
theorem d_K_run_1 : decode b_K_run 1 = .ok (.getfield 50, 3) := by decide +kernel
theorem d_K_run_4 : decode b_K_run 4 = .ok (.ifCond .eq 13, 3) := by decide +kernel
theorem d_K_run_7 : decode b_K_run 7 = .ok (.new 69, 3) := by decide +kernel
theorem d_K_run_10 : decode b_K_run 10 = .ok (.dup, 1) := by decide +kernel
theorem d_K_run_11 : decode b_K_run 11 = .ok (.ldc 107, 2) := by decide +kernel
theorem d_K_run_13 : decode b_K_run 13 = .ok (.invokespecial 73, 3) := by decide +kernel
theorem d_K_run_16 : decode b_K_run 16 = .ok (.athrow, 1) := by decide +kernel
theorem d_K_run_17 : decode b_K_run 17 = .ok (.iconst 0, 1) := by decide +kernel
theorem d_K_run_18 : decode b_K_run 18 = .ok (.istore_n 1, 1) := by decide +kernel
theorem d_K_run_19 : decode b_K_run 19 = .ok (.aload_n 0, 1) := by decide +kernel
theorem d_K_run_20 : decode b_K_run 20 = .ok (.getfield 35, 3) := by decide +kernel
theorem d_K_run_23 : decode b_K_run 23 = .ok (.istore_n 2, 1) := by decide +kernel
theorem d_K_run_24 : decode b_K_run 24 = .ok (.iload_n 2, 1) := by decide +kernel
theorem d_K_run_25 : decode b_K_run 25 = .ok (.aload_n 0, 1) := by decide +kernel
theorem d_K_run_26 : decode b_K_run 26 = .ok (.getfield 32, 3) := by decide +kernel
theorem d_K_run_29 : decode b_K_run 29 = .ok (.if_icmp .ge 44, 3) := by decide +kernel
theorem d_K_run_32 : decode b_K_run 32 = .ok (.iload_n 2, 1) := by decide +kernel
theorem d_K_run_33 : decode b_K_run 33 = .ok (.aload_n 0, 1) := by decide +kernel
theorem d_K_run_34 : decode b_K_run 34 = .ok (.getfield 29, 3) := by decide +kernel
theorem d_K_run_37 : decode b_K_run 37 = .ok (.arraylength, 1) := by decide +kernel
theorem d_K_run_38 : decode b_K_run 38 = .ok (.if_icmp .ge 35, 3) := by decide +kernel
theorem d_K_run_41 : decode b_K_run 41 = .ok (.aload_n 0, 1) := by decide +kernel
theorem d_K_run_42 : decode b_K_run 42 = .ok (.aload_n 0, 1) := by decide +kernel
theorem d_K_run_43 : decode b_K_run 43 = .ok (.getfield 29, 3) := by decide +kernel
theorem d_K_run_46 : decode b_K_run 46 = .ok (.iload_n 2, 1) := by decide +kernel
theorem d_K_run_47 : decode b_K_run 47 = .ok (.iaload, 1) := by decide +kernel
theorem d_K_run_48 : decode b_K_run 48 = .ok (.invokevirtual 77, 3) := by decide +kernel
theorem d_K_run_51 : decode b_K_run 51 = .ok (.astore_n 3, 1) := by decide +kernel
theorem d_K_run_52 : decode b_K_run 52 = .ok (.aload_n 3, 1) := by decide +kernel
theorem d_K_run_53 : decode b_K_run 53 = .ok (.ifnull 14, 3) := by decide +kernel
theorem d_K_run_56 : decode b_K_run 56 = .ok (.aload_n 0, 1) := by decide +kernel
theorem d_K_run_57 : decode b_K_run 57 = .ok (.aload_n 3, 1) := by decide +kernel
theorem d_K_run_58 : decode b_K_run 58 = .ok (.invokevirtual 108, 3) := by decide +kernel
theorem d_K_run_61 : decode b_K_run 61 = .ok (.ifCond .eq 6, 3) := by decide +kernel
theorem d_K_run_64 : decode b_K_run 64 = .ok (.iinc 1 1, 3) := by decide +kernel
theorem d_K_run_67 : decode b_K_run 67 = .ok (.iinc 2 1, 3) := by decide +kernel
theorem d_K_run_70 : decode b_K_run 70 = .ok (.goto (-46), 3) := by decide +kernel
theorem d_K_run_73 : decode b_K_run 73 = .ok (.aload_n 0, 1) := by decide +kernel
theorem d_K_run_74 : decode b_K_run 74 = .ok (.aload_n 0, 1) := by decide +kernel
theorem d_K_run_75 : decode b_K_run 75 = .ok (.getfield 32, 3) := by decide +kernel
theorem d_K_run_78 : decode b_K_run 78 = .ok (.putfield 35, 3) := by decide +kernel
theorem d_K_run_81 : decode b_K_run 81 = .ok (.iload_n 1, 1) := by decide +kernel
theorem d_K_run_82 : decode b_K_run 82 = .ok (.ireturn, 1) := by decide +kernel
theorem d_K_log_0 : decode b_K_log 0 = .ok (.iload_n 1, 1) := by decide +kernel
theorem d_K_log_1 : decode b_K_log 1 = .ok (.ifCond .lt 29, 3) := by decide +kernel
theorem d_K_log_4 : decode b_K_log 4 = .ok (.iload_n 1, 1) := by decide +kernel
theorem d_K_log_5 : decode b_K_log 5 = .ok (.aload_n 0, 1) := by decide +kernel
theorem d_K_log_6 : decode b_K_log 6 = .ok (.getfield 44, 3) := by decide +kernel
theorem d_K_log_9 : decode b_K_log 9 = .ok (.if_icmp .ge 21, 3) := by decide +kernel
theorem d_K_log_12 : decode b_K_log 12 = .ok (.iload_n 1, 1) := by decide +kernel
theorem d_K_log_13 : decode b_K_log 13 = .ok (.aload_n 0, 1) := by decide +kernel
theorem d_K_log_14 : decode b_K_log 14 = .ok (.getfield 41, 3) := by decide +kernel
theorem d_K_log_17 : decode b_K_log 17 = .ok (.arraylength, 1) := by decide +kernel
theorem d_K_log_18 : decode b_K_log 18 = .ok (.if_icmp .ge 12, 3) := by decide +kernel
theorem d_K_log_21 : decode b_K_log 21 = .ok (.aload_n 0, 1) := by decide +kernel
theorem d_K_log_22 : decode b_K_log 22 = .ok (.getfield 41, 3) := by decide +kernel
theorem d_K_log_25 : decode b_K_log 25 = .ok (.iload_n 1, 1) := by decide +kernel
theorem d_K_log_26 : decode b_K_log 26 = .ok (.iaload, 1) := by decide +kernel
theorem d_K_log_27 : decode b_K_log 27 = .ok (.goto 4, 3) := by decide +kernel
theorem d_K_log_30 : decode b_K_log 30 = .ok (.iconst (-1), 1) := by decide +kernel
theorem d_K_log_31 : decode b_K_log 31 = .ok (.ireturn, 1) := by decide +kernel
