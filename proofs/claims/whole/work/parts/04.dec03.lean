theorem d_K_holder_0 : decode b_K_holder 0 = .ok (.iload_n 1, 1) := by decide +kernel
theorem d_K_holder_1 : decode b_K_holder 1 = .ok (.invokestatic 81, 3) := by decide +kernel
theorem d_K_holder_4 : decode b_K_holder 4 = .ok (.ifCond .ne 13, 3) := by decide +kernel
theorem d_K_holder_7 : decode b_K_holder 7 = .ok (.new 60, 3) := by decide +kernel
theorem d_K_holder_10 : decode b_K_holder 10 = .ok (.dup, 1) := by decide +kernel
theorem d_K_holder_11 : decode b_K_holder 11 = .ok (.ldc 111, 2) := by decide +kernel
theorem d_K_holder_13 : decode b_K_holder 13 = .ok (.invokespecial 64, 3) := by decide +kernel
theorem d_K_holder_16 : decode b_K_holder 16 = .ok (.athrow, 1) := by decide +kernel
theorem d_K_holder_17 : decode b_K_holder 17 = .ok (.aload_n 0, 1) := by decide +kernel
theorem d_K_holder_18 : decode b_K_holder 18 = .ok (.getfield 19, 3) := by decide +kernel
theorem d_K_holder_21 : decode b_K_holder 21 = .ok (.iload_n 1, 1) := by decide +kernel
theorem d_K_holder_22 : decode b_K_holder 22 = .ok (.iaload, 1) := by decide +kernel
theorem d_K_holder_23 : decode b_K_holder 23 = .ok (.ireturn, 1) := by decide +kernel
theorem d_K_waits_0 : decode b_K_waits 0 = .ok (.iload_n 1, 1) := by decide +kernel
theorem d_K_waits_1 : decode b_K_waits 1 = .ok (.invokestatic 81, 3) := by decide +kernel
theorem d_K_waits_4 : decode b_K_waits 4 = .ok (.ifCond .ne 13, 3) := by decide +kernel
theorem d_K_waits_7 : decode b_K_waits 7 = .ok (.new 60, 3) := by decide +kernel
theorem d_K_waits_10 : decode b_K_waits 10 = .ok (.dup, 1) := by decide +kernel
theorem d_K_waits_11 : decode b_K_waits 11 = .ok (.ldc 111, 2) := by decide +kernel
theorem d_K_waits_13 : decode b_K_waits 13 = .ok (.invokespecial 64, 3) := by decide +kernel
theorem d_K_waits_16 : decode b_K_waits 16 = .ok (.athrow, 1) := by decide +kernel
theorem d_K_waits_17 : decode b_K_waits 17 = .ok (.aload_n 0, 1) := by decide +kernel
theorem d_K_waits_18 : decode b_K_waits 18 = .ok (.iload_n 1, 1) := by decide +kernel
theorem d_K_waits_19 : decode b_K_waits 19 = .ok (.iload_n 2, 1) := by decide +kernel
theorem d_K_waits_20 : decode b_K_waits 20 = .ok (.invokevirtual 113, 3) := by decide +kernel
theorem d_K_waits_23 : decode b_K_waits 23 = .ok (.astore_n 3, 1) := by decide +kernel
theorem d_K_waits_24 : decode b_K_waits 24 = .ok (.aload_n 3, 1) := by decide +kernel
theorem d_K_waits_25 : decode b_K_waits 25 = .ok (.ifnonnull 7, 3) := by decide +kernel
theorem d_K_waits_28 : decode b_K_waits 28 = .ok (.iconst (-1), 1) := by decide +kernel
theorem d_K_waits_29 : decode b_K_waits 29 = .ok (.goto 7, 3) := by decide +kernel
theorem d_K_waits_32 : decode b_K_waits 32 = .ok (.aload_n 3, 1) := by decide +kernel
theorem d_K_waits_33 : decode b_K_waits 33 = .ok (.getfield 117, 3) := by decide +kernel
theorem d_K_waits_36 : decode b_K_waits 36 = .ok (.ireturn, 1) := by decide +kernel
theorem d_K_interrupt_0 : decode b_K_interrupt 0 = .ok (.aload_n 0, 1) := by decide +kernel
theorem d_K_interrupt_1 : decode b_K_interrupt 1 = .ok (.iload_n 1, 1) := by decide +kernel
theorem d_K_interrupt_2 : decode b_K_interrupt 2 = .ok (.invokevirtual 77, 3) := by decide +kernel
theorem d_K_interrupt_5 : decode b_K_interrupt 5 = .ok (.astore_n 2, 1) := by decide +kernel
theorem d_K_interrupt_6 : decode b_K_interrupt 6 = .ok (.aload_n 2, 1) := by decide +kernel
theorem d_K_interrupt_7 : decode b_K_interrupt 7 = .ok (.ifnull 11, 3) := by decide +kernel
theorem d_K_interrupt_10 : decode b_K_interrupt 10 = .ok (.aload_n 2, 1) := by decide +kernel
theorem d_K_interrupt_11 : decode b_K_interrupt 11 = .ok (.getfield 120, 3) := by decide +kernel
theorem d_K_interrupt_14 : decode b_K_interrupt 14 = .ok (.iconst (-1), 1) := by decide +kernel
theorem d_K_interrupt_15 : decode b_K_interrupt 15 = .ok (.if_icmp .ne 5, 3) := by decide +kernel
theorem d_K_interrupt_18 : decode b_K_interrupt 18 = .ok (.iconst 0, 1) := by decide +kernel
theorem d_K_interrupt_19 : decode b_K_interrupt 19 = .ok (.ireturn, 1) := by decide +kernel
theorem d_K_interrupt_20 : decode b_K_interrupt 20 = .ok (.aload_n 2, 1) := by decide +kernel
theorem d_K_interrupt_21 : decode b_K_interrupt 21 = .ok (.iconst (-1), 1) := by decide +kernel
theorem d_K_interrupt_22 : decode b_K_interrupt 22 = .ok (.putfield 120, 3) := by decide +kernel
theorem d_K_interrupt_25 : decode b_K_interrupt 25 = .ok (.aload_n 0, 1) := by decide +kernel
theorem d_K_interrupt_26 : decode b_K_interrupt 26 = .ok (.aload_n 2, 1) := by decide +kernel
theorem d_K_interrupt_27 : decode b_K_interrupt 27 = .ok (.invokevirtual 123, 3) := by decide +kernel
theorem d_K_interrupt_30 : decode b_K_interrupt 30 = .ok (.aload_n 0, 1) := by decide +kernel
theorem d_K_interrupt_31 : decode b_K_interrupt 31 = .ok (.iconst 3, 1) := by decide +kernel
theorem d_K_interrupt_32 : decode b_K_interrupt 32 = .ok (.aload_n 2, 1) := by decide +kernel
theorem d_K_interrupt_33 : decode b_K_interrupt 33 = .ok (.invokevirtual 127, 3) := by decide +kernel
theorem d_K_interrupt_36 : decode b_K_interrupt 36 = .ok (.aload_n 2, 1) := by decide +kernel
theorem d_K_interrupt_37 : decode b_K_interrupt 37 = .ok (.dup, 1) := by decide +kernel
theorem d_K_interrupt_38 : decode b_K_interrupt 38 = .ok (.getfield 92, 3) := by decide +kernel
theorem d_K_interrupt_41 : decode b_K_interrupt 41 = .ok (.iconst 1, 1) := by decide +kernel
theorem d_K_interrupt_42 : decode b_K_interrupt 42 = .ok (.iadd, 1) := by decide +kernel
theorem d_K_interrupt_43 : decode b_K_interrupt 43 = .ok (.putfield 92, 3) := by decide +kernel
theorem d_K_interrupt_46 : decode b_K_interrupt 46 = .ok (.iconst 1, 1) := by decide +kernel
theorem d_K_interrupt_47 : decode b_K_interrupt 47 = .ok (.ireturn, 1) := by decide +kernel
theorem d_K_dead_0 : decode b_K_dead 0 = .ok (.aload_n 0, 1) := by decide +kernel
theorem d_K_dead_1 : decode b_K_dead 1 = .ok (.iload_n 1, 1) := by decide +kernel
theorem d_K_dead_2 : decode b_K_dead 2 = .ok (.invokevirtual 77, 3) := by decide +kernel
theorem d_K_dead_5 : decode b_K_dead 5 = .ok (.astore_n 2, 1) := by decide +kernel
theorem d_K_dead_6 : decode b_K_dead 6 = .ok (.aload_n 2, 1) := by decide +kernel
theorem d_K_dead_7 : decode b_K_dead 7 = .ok (.ifnonnull 13, 3) := by decide +kernel
theorem d_K_dead_10 : decode b_K_dead 10 = .ok (.new 60, 3) := by decide +kernel
theorem d_K_dead_13 : decode b_K_dead 13 = .ok (.dup, 1) := by decide +kernel
theorem d_K_dead_14 : decode b_K_dead 14 = .ok (.ldc 103, 2) := by decide +kernel
theorem d_K_dead_16 : decode b_K_dead 16 = .ok (.invokespecial 64, 3) := by decide +kernel
theorem d_K_dead_19 : decode b_K_dead 19 = .ok (.athrow, 1) := by decide +kernel
theorem d_K_dead_20 : decode b_K_dead 20 = .ok (.aload_n 2, 1) := by decide +kernel
theorem d_K_dead_21 : decode b_K_dead 21 = .ok (.invokestatic 131, 3) := by decide +kernel
theorem d_K_dead_24 : decode b_K_dead 24 = .ok (.ifCond .ne 5, 3) := by decide +kernel
theorem d_K_dead_27 : decode b_K_dead 27 = .ok (.iconst (-1), 1) := by decide +kernel
theorem d_K_dead_28 : decode b_K_dead 28 = .ok (.ireturn, 1) := by decide +kernel
theorem d_K_dead_29 : decode b_K_dead 29 = .ok (.aload_n 2, 1) := by decide +kernel
theorem d_K_dead_30 : decode b_K_dead 30 = .ok (.iconst (-1), 1) := by decide +kernel
theorem d_K_dead_31 : decode b_K_dead 31 = .ok (.putfield 120, 3) := by decide +kernel
theorem d_K_dead_34 : decode b_K_dead 34 = .ok (.aload_n 2, 1) := by decide +kernel
theorem d_K_dead_35 : decode b_K_dead 35 = .ok (.iconst 1, 1) := by decide +kernel
theorem d_K_dead_36 : decode b_K_dead 36 = .ok (.putfield 134, 3) := by decide +kernel
theorem d_K_dead_39 : decode b_K_dead 39 = .ok (.aload_n 0, 1) := by decide +kernel
theorem d_K_dead_40 : decode b_K_dead 40 = .ok (.aload_n 2, 1) := by decide +kernel
theorem d_K_dead_41 : decode b_K_dead 41 = .ok (.invokevirtual 137, 3) := by decide +kernel
theorem d_K_dead_44 : decode b_K_dead 44 = .ok (.invokestatic 141, 3) := by decide +kernel
theorem d_K_dead_47 : decode b_K_dead 47 = .ok (.ireturn, 1) := by decide +kernel
theorem d_K_tick_0 : decode b_K_tick 0 = .ok (.iload_n 1, 1) := by decide +kernel
theorem d_K_tick_1 : decode b_K_tick 1 = .ok (.aload_n 0, 1) := by decide +kernel
theorem d_K_tick_2 : decode b_K_tick 2 = .ok (.getfield 47, 3) := by decide +kernel
theorem d_K_tick_5 : decode b_K_tick 5 = .ok (.if_icmp .lt 9, 3) := by decide +kernel
theorem d_K_tick_8 : decode b_K_tick 8 = .ok (.iload_n 1, 1) := by decide +kernel
theorem d_K_tick_9 : decode b_K_tick 9 = .ok (.ldc 147, 2) := by decide +kernel
theorem d_K_tick_11 : decode b_K_tick 11 = .ok (.if_icmp .le 13, 3) := by decide +kernel
theorem d_K_tick_14 : decode b_K_tick 14 = .ok (.new 60, 3) := by decide +kernel
theorem d_K_tick_17 : decode b_K_tick 17 = .ok (.dup, 1) := by decide +kernel
theorem d_K_tick_18 : decode b_K_tick 18 = .ok (.ldc 148, 2) := by decide +kernel
theorem d_K_tick_20 : decode b_K_tick 20 = .ok (.invokespecial 64, 3) := by decide +kernel
theorem d_K_tick_23 : decode b_K_tick 23 = .ok (.athrow, 1) := by decide +kernel
theorem d_K_tick_24 : decode b_K_tick 24 = .ok (.aload_n 0, 1) := by decide +kernel
theorem d_K_tick_25 : decode b_K_tick 25 = .ok (.iload_n 1, 1) := by decide +kernel
theorem d_K_tick_26 : decode b_K_tick 26 = .ok (.putfield 47, 3) := by decide +kernel
theorem d_K_tick_29 : decode b_K_tick 29 = .ok (.iconst 0, 1) := by decide +kernel
theorem d_K_tick_30 : decode b_K_tick 30 = .ok (.istore_n 2, 1) := by decide +kernel
theorem d_K_tick_31 : decode b_K_tick 31 = .ok (.iconst 0, 1) := by decide +kernel
theorem d_K_tick_32 : decode b_K_tick 32 = .ok (.istore_n 3, 1) := by decide +kernel
theorem d_K_tick_33 : decode b_K_tick 33 = .ok (.iload_n 3, 1) := by decide +kernel
theorem d_K_tick_34 : decode b_K_tick 34 = .ok (.bipush 16, 2) := by decide +kernel
theorem d_K_tick_36 : decode b_K_tick 36 = .ok (.if_icmp .ge 25, 3) := by decide +kernel
theorem d_K_tick_39 : decode b_K_tick 39 = .ok (.aload_n 0, 1) := by decide +kernel
theorem d_K_tick_40 : decode b_K_tick 40 = .ok (.iload_n 3, 1) := by decide +kernel
theorem d_K_tick_41 : decode b_K_tick 41 = .ok (.invokevirtual 150, 3) := by decide +kernel
theorem d_K_tick_44 : decode b_K_tick 44 = .ok (.ifCond .eq 11, 3) := by decide +kernel
theorem d_K_tick_47 : decode b_K_tick 47 = .ok (.aload_n 0, 1) := by decide +kernel
theorem d_K_tick_48 : decode b_K_tick 48 = .ok (.iload_n 3, 1) := by decide +kernel
theorem d_K_tick_49 : decode b_K_tick 49 = .ok (.invokevirtual 153, 3) := by decide +kernel
theorem d_K_tick_52 : decode b_K_tick 52 = .ok (.iinc 2 1, 3) := by decide +kernel
theorem d_K_tick_55 : decode b_K_tick 55 = .ok (.iinc 3 1, 3) := by decide +kernel
theorem d_K_tick_58 : decode b_K_tick 58 = .ok (.goto (-25), 3) := by decide +kernel
theorem d_K_tick_61 : decode b_K_tick 61 = .ok (.iload_n 2, 1) := by decide +kernel
theorem d_K_tick_62 : decode b_K_tick 62 = .ok (.ireturn, 1) := by decide +kernel
theorem d_K_close_0 : decode b_K_close 0 = .ok (.aload_n 0, 1) := by decide +kernel
theorem d_K_close_1 : decode b_K_close 1 = .ok (.getfield 50, 3) := by decide +kernel
theorem d_K_close_4 : decode b_K_close 4 = .ok (.ifCond .eq 5, 3) := by decide +kernel
theorem d_K_close_7 : decode b_K_close 7 = .ok (.iconst (-1), 1) := by decide +kernel
theorem d_K_close_8 : decode b_K_close 8 = .ok (.ireturn, 1) := by decide +kernel
theorem d_K_close_9 : decode b_K_close 9 = .ok (.aload_n 0, 1) := by decide +kernel
theorem d_K_close_10 : decode b_K_close 10 = .ok (.iconst 1, 1) := by decide +kernel
theorem d_K_close_11 : decode b_K_close 11 = .ok (.putfield 50, 3) := by decide +kernel
theorem d_K_close_14 : decode b_K_close 14 = .ok (.iconst 0, 1) := by decide +kernel
theorem d_K_close_15 : decode b_K_close 15 = .ok (.istore_n 1, 1) := by decide +kernel
theorem d_K_close_16 : decode b_K_close 16 = .ok (.iconst 0, 1) := by decide +kernel
theorem d_K_close_17 : decode b_K_close 17 = .ok (.istore_n 2, 1) := by decide +kernel
theorem d_K_close_18 : decode b_K_close 18 = .ok (.iload_n 2, 1) := by decide +kernel
theorem d_K_close_19 : decode b_K_close 19 = .ok (.aload_n 0, 1) := by decide +kernel
theorem d_K_close_20 : decode b_K_close 20 = .ok (.getfield 15, 3) := by decide +kernel
theorem d_K_close_23 : decode b_K_close 23 = .ok (.if_icmp .ge 45, 3) := by decide +kernel
theorem d_K_close_26 : decode b_K_close 26 = .ok (.iload_n 2, 1) := by decide +kernel
theorem d_K_close_27 : decode b_K_close 27 = .ok (.aload_n 0, 1) := by decide +kernel
theorem d_K_close_28 : decode b_K_close 28 = .ok (.getfield 11, 3) := by decide +kernel
theorem d_K_close_31 : decode b_K_close 31 = .ok (.arraylength, 1) := by decide +kernel
theorem d_K_close_32 : decode b_K_close 32 = .ok (.if_icmp .ge 36, 3) := by decide +kernel
theorem d_K_close_35 : decode b_K_close 35 = .ok (.aload_n 0, 1) := by decide +kernel
theorem d_K_close_36 : decode b_K_close 36 = .ok (.getfield 11, 3) := by decide +kernel
theorem d_K_close_39 : decode b_K_close 39 = .ok (.iload_n 2, 1) := by decide +kernel
theorem d_K_close_40 : decode b_K_close 40 = .ok (.aaload, 1) := by decide +kernel
theorem d_K_close_41 : decode b_K_close 41 = .ok (.astore_n 3, 1) := by decide +kernel
theorem d_K_close_42 : decode b_K_close 42 = .ok (.aload_n 3, 1) := by decide +kernel
theorem d_K_close_43 : decode b_K_close 43 = .ok (.ifnull 19, 3) := by decide +kernel
theorem d_K_close_46 : decode b_K_close 46 = .ok (.aload_n 3, 1) := by decide +kernel
theorem d_K_close_47 : decode b_K_close 47 = .ok (.invokevirtual 157, 3) := by decide +kernel
theorem d_K_close_50 : decode b_K_close 50 = .ok (.iconst 2, 1) := by decide +kernel
theorem d_K_close_51 : decode b_K_close 51 = .ok (.if_icmp .eq 11, 3) := by decide +kernel
theorem d_K_close_54 : decode b_K_close 54 = .ok (.aload_n 0, 1) := by decide +kernel
theorem d_K_close_55 : decode b_K_close 55 = .ok (.aload_n 3, 1) := by decide +kernel
theorem d_K_close_56 : decode b_K_close 56 = .ok (.invokevirtual 161, 3) := by decide +kernel
theorem d_K_close_59 : decode b_K_close 59 = .ok (.iinc 1 1, 3) := by decide +kernel
theorem d_K_close_62 : decode b_K_close 62 = .ok (.iinc 2 1, 3) := by decide +kernel
theorem d_K_close_65 : decode b_K_close 65 = .ok (.goto (-47), 3) := by decide +kernel
theorem d_K_close_68 : decode b_K_close 68 = .ok (.iload_n 1, 1) := by decide +kernel
theorem d_K_close_69 : decode b_K_close 69 = .ok (.ireturn, 1) := by decide +kernel
theorem d_K_look_0 : decode b_K_look 0 = .ok (.aload_n 0, 1) := by decide +kernel
theorem d_K_look_1 : decode b_K_look 1 = .ok (.iload_n 1, 1) := by decide +kernel
theorem d_K_look_2 : decode b_K_look 2 = .ok (.invokevirtual 77, 3) := by decide +kernel
theorem d_K_look_5 : decode b_K_look 5 = .ok (.astore_n 3, 1) := by decide +kernel
theorem d_K_look_6 : decode b_K_look 6 = .ok (.aload_n 3, 1) := by decide +kernel
theorem d_K_look_7 : decode b_K_look 7 = .ok (.ifnonnull 13, 3) := by decide +kernel
theorem d_K_look_10 : decode b_K_look 10 = .ok (.new 164, 3) := by decide +kernel
theorem d_K_look_13 : decode b_K_look 13 = .ok (.dup, 1) := by decide +kernel
theorem d_K_look_14 : decode b_K_look 14 = .ok (.ldc 103, 2) := by decide +kernel
theorem d_K_look_16 : decode b_K_look 16 = .ok (.invokespecial 166, 3) := by decide +kernel
theorem d_K_look_19 : decode b_K_look 19 = .ok (.athrow, 1) := by decide +kernel
theorem d_K_look_20 : decode b_K_look 20 = .ok (.iload_n 2, 1) := by decide +kernel
theorem d_K_look_21 : decode b_K_look 21 = .ok (.tableswitch 61 0 4 #[35, 40, 45, 50, 56], 35) := by decide +kernel
theorem d_K_look_56 : decode b_K_look 56 = .ok (.aload_n 3, 1) := by decide +kernel
theorem d_K_look_57 : decode b_K_look 57 = .ok (.getfield 92, 3) := by decide +kernel
theorem d_K_look_60 : decode b_K_look 60 = .ok (.ireturn, 1) := by decide +kernel
theorem d_K_look_61 : decode b_K_look 61 = .ok (.aload_n 3, 1) := by decide +kernel
theorem d_K_look_62 : decode b_K_look 62 = .ok (.getfield 167, 3) := by decide +kernel
theorem d_K_look_65 : decode b_K_look 65 = .ok (.ireturn, 1) := by decide +kernel
theorem d_K_look_66 : decode b_K_look 66 = .ok (.aload_n 3, 1) := by decide +kernel
theorem d_K_look_67 : decode b_K_look 67 = .ok (.invokevirtual 157, 3) := by decide +kernel
theorem d_K_look_70 : decode b_K_look 70 = .ok (.ireturn, 1) := by decide +kernel
theorem d_K_look_71 : decode b_K_look 71 = .ok (.aload_n 0, 1) := by decide +kernel
theorem d_K_look_72 : decode b_K_look 72 = .ok (.aload_n 3, 1) := by decide +kernel
theorem d_K_look_73 : decode b_K_look 73 = .ok (.invokevirtual 137, 3) := by decide +kernel
theorem d_K_look_76 : decode b_K_look 76 = .ok (.ireturn, 1) := by decide +kernel
theorem d_K_look_77 : decode b_K_look 77 = .ok (.aload_n 3, 1) := by decide +kernel
theorem d_K_look_78 : decode b_K_look 78 = .ok (.getfield 120, 3) := by decide +kernel
theorem d_K_look_81 : decode b_K_look 81 = .ok (.ireturn, 1) := by decide +kernel
theorem d_K_look_82 : decode b_K_look 82 = .ok (.new 164, 3) := by decide +kernel
theorem d_K_look_85 : decode b_K_look 85 = .ok (.dup, 1) := by decide +kernel
theorem d_K_look_86 : decode b_K_look 86 = .ok (.ldc 170, 2) := by decide +kernel
theorem d_K_look_88 : decode b_K_look 88 = .ok (.invokespecial 166, 3) := by decide +kernel
theorem d_K_look_91 : decode b_K_look 91 = .ok (.athrow, 1) := by decide +kernel
theorem d_K_count_0 : decode b_K_count 0 = .ok (.iload_n 1, 1) := by decide +kernel
theorem d_K_count_1 : decode b_K_count 1 = .ok (.tableswitch 86 0 6 #[43, 48, 53, 58, 63, 68, 81], 43) := by decide +kernel
theorem d_K_count_44 : decode b_K_count 44 = .ok (.aload_n 0, 1) := by decide +kernel
theorem d_K_count_45 : decode b_K_count 45 = .ok (.getfield 15, 3) := by decide +kernel
theorem d_K_count_48 : decode b_K_count 48 = .ok (.ireturn, 1) := by decide +kernel
theorem d_K_count_49 : decode b_K_count 49 = .ok (.aload_n 0, 1) := by decide +kernel
theorem d_K_count_50 : decode b_K_count 50 = .ok (.getfield 44, 3) := by decide +kernel
theorem d_K_count_53 : decode b_K_count 53 = .ok (.ireturn, 1) := by decide +kernel
theorem d_K_count_54 : decode b_K_count 54 = .ok (.aload_n 0, 1) := by decide +kernel
theorem d_K_count_55 : decode b_K_count 55 = .ok (.getfield 32, 3) := by decide +kernel
theorem d_K_count_58 : decode b_K_count 58 = .ok (.ireturn, 1) := by decide +kernel
theorem d_K_count_59 : decode b_K_count 59 = .ok (.aload_n 0, 1) := by decide +kernel
theorem d_K_count_60 : decode b_K_count 60 = .ok (.getfield 38, 3) := by decide +kernel
theorem d_K_count_63 : decode b_K_count 63 = .ok (.ireturn, 1) := by decide +kernel
theorem d_K_count_64 : decode b_K_count 64 = .ok (.aload_n 0, 1) := by decide +kernel
theorem d_K_count_65 : decode b_K_count 65 = .ok (.getfield 47, 3) := by decide +kernel
theorem d_K_count_68 : decode b_K_count 68 = .ok (.ireturn, 1) := by decide +kernel
theorem d_K_count_69 : decode b_K_count 69 = .ok (.aload_n 0, 1) := by decide +kernel
theorem d_K_count_70 : decode b_K_count 70 = .ok (.getfield 50, 3) := by decide +kernel
theorem d_K_count_73 : decode b_K_count 73 = .ok (.ifCond .eq 7, 3) := by decide +kernel
theorem d_K_count_76 : decode b_K_count 76 = .ok (.iconst 1, 1) := by decide +kernel
theorem d_K_count_77 : decode b_K_count 77 = .ok (.goto 4, 3) := by decide +kernel
theorem d_K_count_80 : decode b_K_count 80 = .ok (.iconst 0, 1) := by decide +kernel
theorem d_K_count_81 : decode b_K_count 81 = .ok (.ireturn, 1) := by decide +kernel
theorem d_K_count_82 : decode b_K_count 82 = .ok (.aload_n 0, 1) := by decide +kernel
theorem d_K_count_83 : decode b_K_count 83 = .ok (.invokevirtual 172, 3) := by decide +kernel
theorem d_K_count_86 : decode b_K_count 86 = .ok (.ireturn, 1) := by decide +kernel
theorem d_K_count_87 : decode b_K_count 87 = .ok (.iconst (-1), 1) := by decide +kernel
theorem d_K_count_88 : decode b_K_count 88 = .ok (.ireturn, 1) := by decide +kernel
theorem d_K_deskAt_0 : decode b_K_deskAt 0 = .ok (.iload_n 1, 1) := by decide +kernel
theorem d_K_deskAt_1 : decode b_K_deskAt 1 = .ok (.ifCond .lt 29, 3) := by decide +kernel
theorem d_K_deskAt_4 : decode b_K_deskAt 4 = .ok (.iload_n 1, 1) := by decide +kernel
theorem d_K_deskAt_5 : decode b_K_deskAt 5 = .ok (.aload_n 0, 1) := by decide +kernel
theorem d_K_deskAt_6 : decode b_K_deskAt 6 = .ok (.getfield 15, 3) := by decide +kernel
theorem d_K_deskAt_9 : decode b_K_deskAt 9 = .ok (.if_icmp .ge 21, 3) := by decide +kernel
theorem d_K_deskAt_12 : decode b_K_deskAt 12 = .ok (.iload_n 1, 1) := by decide +kernel
theorem d_K_deskAt_13 : decode b_K_deskAt 13 = .ok (.aload_n 0, 1) := by decide +kernel
theorem d_K_deskAt_14 : decode b_K_deskAt 14 = .ok (.getfield 11, 3) := by decide +kernel
theorem d_K_deskAt_17 : decode b_K_deskAt 17 = .ok (.arraylength, 1) := by decide +kernel
theorem d_K_deskAt_18 : decode b_K_deskAt 18 = .ok (.if_icmp .ge 12, 3) := by decide +kernel
theorem d_K_deskAt_21 : decode b_K_deskAt 21 = .ok (.aload_n 0, 1) := by decide +kernel
theorem d_K_deskAt_22 : decode b_K_deskAt 22 = .ok (.getfield 11, 3) := by decide +kernel
theorem d_K_deskAt_25 : decode b_K_deskAt 25 = .ok (.iload_n 1, 1) := by decide +kernel
theorem d_K_deskAt_26 : decode b_K_deskAt 26 = .ok (.aaload, 1) := by decide +kernel
theorem d_K_deskAt_27 : decode b_K_deskAt 27 = .ok (.goto 4, 3) := by decide +kernel
theorem d_K_deskAt_30 : decode b_K_deskAt 30 = .ok (.aconst_null, 1) := by decide +kernel
theorem d_K_deskAt_31 : decode b_K_deskAt 31 = .ok (.areturn, 1) := by decide +kernel
