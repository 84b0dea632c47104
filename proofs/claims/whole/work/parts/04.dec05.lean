theorem d_K_waiterFor_0 : decode b_K_waiterFor 0 = .ok (.iconst 0, 1) := by decide +kernel
theorem d_K_waiterFor_1 : decode b_K_waiterFor 1 = .ok (.istore_n 3, 1) := by decide +kernel
theorem d_K_waiterFor_2 : decode b_K_waiterFor 2 = .ok (.iload_n 3, 1) := by decide +kernel
theorem d_K_waiterFor_3 : decode b_K_waiterFor 3 = .ok (.aload_n 0, 1) := by decide +kernel
theorem d_K_waiterFor_4 : decode b_K_waiterFor 4 = .ok (.getfield 15, 3) := by decide +kernel
theorem d_K_waiterFor_7 : decode b_K_waiterFor 7 = .ok (.if_icmp .ge 53, 3) := by decide +kernel
theorem d_K_waiterFor_10 : decode b_K_waiterFor 10 = .ok (.iload_n 3, 1) := by decide +kernel
theorem d_K_waiterFor_11 : decode b_K_waiterFor 11 = .ok (.aload_n 0, 1) := by decide +kernel
theorem d_K_waiterFor_12 : decode b_K_waiterFor 12 = .ok (.getfield 11, 3) := by decide +kernel
theorem d_K_waiterFor_15 : decode b_K_waiterFor 15 = .ok (.arraylength, 1) := by decide +kernel
theorem d_K_waiterFor_16 : decode b_K_waiterFor 16 = .ok (.if_icmp .ge 44, 3) := by decide +kernel
theorem d_K_waiterFor_19 : decode b_K_waiterFor 19 = .ok (.aload_n 0, 1) := by decide +kernel
theorem d_K_waiterFor_20 : decode b_K_waiterFor 20 = .ok (.getfield 11, 3) := by decide +kernel
theorem d_K_waiterFor_23 : decode b_K_waiterFor 23 = .ok (.iload_n 3, 1) := by decide +kernel
theorem d_K_waiterFor_24 : decode b_K_waiterFor 24 = .ok (.aaload, 1) := by decide +kernel
theorem d_K_waiterFor_25 : decode b_K_waiterFor 25 = .ok (.astore 4, 2) := by decide +kernel
theorem d_K_waiterFor_27 : decode b_K_waiterFor 27 = .ok (.aload 4, 2) := by decide +kernel
theorem d_K_waiterFor_29 : decode b_K_waiterFor 29 = .ok (.ifnull 25, 3) := by decide +kernel
theorem d_K_waiterFor_32 : decode b_K_waiterFor 32 = .ok (.aload 4, 2) := by decide +kernel
theorem d_K_waiterFor_34 : decode b_K_waiterFor 34 = .ok (.getfield 120, 3) := by decide +kernel
theorem d_K_waiterFor_37 : decode b_K_waiterFor 37 = .ok (.iload_n 1, 1) := by decide +kernel
theorem d_K_waiterFor_38 : decode b_K_waiterFor 38 = .ok (.if_icmp .ne 16, 3) := by decide +kernel
theorem d_K_waiterFor_41 : decode b_K_waiterFor 41 = .ok (.aload_n 0, 1) := by decide +kernel
theorem d_K_waiterFor_42 : decode b_K_waiterFor 42 = .ok (.aload 4, 2) := by decide +kernel
theorem d_K_waiterFor_44 : decode b_K_waiterFor 44 = .ok (.invokevirtual 194, 3) := by decide +kernel
theorem d_K_waiterFor_47 : decode b_K_waiterFor 47 = .ok (.iload_n 2, 1) := by decide +kernel
theorem d_K_waiterFor_48 : decode b_K_waiterFor 48 = .ok (.if_icmp .ne 6, 3) := by decide +kernel
theorem d_K_waiterFor_51 : decode b_K_waiterFor 51 = .ok (.aload 4, 2) := by decide +kernel
theorem d_K_waiterFor_53 : decode b_K_waiterFor 53 = .ok (.areturn, 1) := by decide +kernel
theorem d_K_waiterFor_54 : decode b_K_waiterFor 54 = .ok (.iinc 3 1, 3) := by decide +kernel
theorem d_K_waiterFor_57 : decode b_K_waiterFor 57 = .ok (.goto (-55), 3) := by decide +kernel
theorem d_K_waiterFor_60 : decode b_K_waiterFor 60 = .ok (.aconst_null, 1) := by decide +kernel
theorem d_K_waiterFor_61 : decode b_K_waiterFor 61 = .ok (.areturn, 1) := by decide +kernel
theorem d_K_waitersAheadOf_0 : decode b_K_waitersAheadOf 0 = .ok (.iconst 0, 1) := by decide +kernel
theorem d_K_waitersAheadOf_1 : decode b_K_waitersAheadOf 1 = .ok (.istore_n 2, 1) := by decide +kernel
theorem d_K_waitersAheadOf_2 : decode b_K_waitersAheadOf 2 = .ok (.iconst 0, 1) := by decide +kernel
theorem d_K_waitersAheadOf_3 : decode b_K_waitersAheadOf 3 = .ok (.istore_n 3, 1) := by decide +kernel
theorem d_K_waitersAheadOf_4 : decode b_K_waitersAheadOf 4 = .ok (.iload_n 3, 1) := by decide +kernel
theorem d_K_waitersAheadOf_5 : decode b_K_waitersAheadOf 5 = .ok (.aload_n 0, 1) := by decide +kernel
theorem d_K_waitersAheadOf_6 : decode b_K_waitersAheadOf 6 = .ok (.getfield 15, 3) := by decide +kernel
theorem d_K_waitersAheadOf_9 : decode b_K_waitersAheadOf 9 = .ok (.if_icmp .ge 58, 3) := by decide +kernel
theorem d_K_waitersAheadOf_12 : decode b_K_waitersAheadOf 12 = .ok (.iload_n 3, 1) := by decide +kernel
theorem d_K_waitersAheadOf_13 : decode b_K_waitersAheadOf 13 = .ok (.aload_n 0, 1) := by decide +kernel
theorem d_K_waitersAheadOf_14 : decode b_K_waitersAheadOf 14 = .ok (.getfield 11, 3) := by decide +kernel
theorem d_K_waitersAheadOf_17 : decode b_K_waitersAheadOf 17 = .ok (.arraylength, 1) := by decide +kernel
theorem d_K_waitersAheadOf_18 : decode b_K_waitersAheadOf 18 = .ok (.if_icmp .ge 49, 3) := by decide +kernel
theorem d_K_waitersAheadOf_21 : decode b_K_waitersAheadOf 21 = .ok (.aload_n 0, 1) := by decide +kernel
theorem d_K_waitersAheadOf_22 : decode b_K_waitersAheadOf 22 = .ok (.getfield 11, 3) := by decide +kernel
theorem d_K_waitersAheadOf_25 : decode b_K_waitersAheadOf 25 = .ok (.iload_n 3, 1) := by decide +kernel
theorem d_K_waitersAheadOf_26 : decode b_K_waitersAheadOf 26 = .ok (.aaload, 1) := by decide +kernel
theorem d_K_waitersAheadOf_27 : decode b_K_waitersAheadOf 27 = .ok (.astore 4, 2) := by decide +kernel
theorem d_K_waitersAheadOf_29 : decode b_K_waitersAheadOf 29 = .ok (.aload 4, 2) := by decide +kernel
theorem d_K_waitersAheadOf_31 : decode b_K_waitersAheadOf 31 = .ok (.ifnull 30, 3) := by decide +kernel
theorem d_K_waitersAheadOf_34 : decode b_K_waitersAheadOf 34 = .ok (.aload 4, 2) := by decide +kernel
theorem d_K_waitersAheadOf_36 : decode b_K_waitersAheadOf 36 = .ok (.getfield 120, 3) := by decide +kernel
theorem d_K_waitersAheadOf_39 : decode b_K_waitersAheadOf 39 = .ok (.aload_n 1, 1) := by decide +kernel
theorem d_K_waitersAheadOf_40 : decode b_K_waitersAheadOf 40 = .ok (.getfield 120, 3) := by decide +kernel
theorem d_K_waitersAheadOf_43 : decode b_K_waitersAheadOf 43 = .ok (.if_icmp .ne 18, 3) := by decide +kernel
theorem d_K_waitersAheadOf_46 : decode b_K_waitersAheadOf 46 = .ok (.aload 4, 2) := by decide +kernel
theorem d_K_waitersAheadOf_48 : decode b_K_waitersAheadOf 48 = .ok (.getfield 188, 3) := by decide +kernel
theorem d_K_waitersAheadOf_51 : decode b_K_waitersAheadOf 51 = .ok (.aload_n 1, 1) := by decide +kernel
theorem d_K_waitersAheadOf_52 : decode b_K_waitersAheadOf 52 = .ok (.getfield 188, 3) := by decide +kernel
theorem d_K_waitersAheadOf_55 : decode b_K_waitersAheadOf 55 = .ok (.if_icmp .ge 6, 3) := by decide +kernel
theorem d_K_waitersAheadOf_58 : decode b_K_waitersAheadOf 58 = .ok (.iinc 2 1, 3) := by decide +kernel
theorem d_K_waitersAheadOf_61 : decode b_K_waitersAheadOf 61 = .ok (.iinc 3 1, 3) := by decide +kernel
theorem d_K_waitersAheadOf_64 : decode b_K_waitersAheadOf 64 = .ok (.goto (-60), 3) := by decide +kernel
theorem d_K_waitersAheadOf_67 : decode b_K_waitersAheadOf 67 = .ok (.iload_n 2, 1) := by decide +kernel
theorem d_K_waitersAheadOf_68 : decode b_K_waitersAheadOf 68 = .ok (.ireturn, 1) := by decide +kernel
theorem d_K_isOverdue_0 : decode b_K_isOverdue 0 = .ok (.aload_n 0, 1) := by decide +kernel
theorem d_K_isOverdue_1 : decode b_K_isOverdue 1 = .ok (.aload_n 0, 1) := by decide +kernel
theorem d_K_isOverdue_2 : decode b_K_isOverdue 2 = .ok (.getfield 19, 3) := by decide +kernel
theorem d_K_isOverdue_5 : decode b_K_isOverdue 5 = .ok (.iload_n 1, 1) := by decide +kernel
theorem d_K_isOverdue_6 : decode b_K_isOverdue 6 = .ok (.iaload, 1) := by decide +kernel
theorem d_K_isOverdue_7 : decode b_K_isOverdue 7 = .ok (.invokevirtual 77, 3) := by decide +kernel
theorem d_K_isOverdue_10 : decode b_K_isOverdue 10 = .ok (.astore_n 2, 1) := by decide +kernel
theorem d_K_isOverdue_11 : decode b_K_isOverdue 11 = .ok (.aload_n 2, 1) := by decide +kernel
theorem d_K_isOverdue_12 : decode b_K_isOverdue 12 = .ok (.ifnull 31, 3) := by decide +kernel
theorem d_K_isOverdue_15 : decode b_K_isOverdue 15 = .ok (.aload_n 2, 1) := by decide +kernel
theorem d_K_isOverdue_16 : decode b_K_isOverdue 16 = .ok (.invokevirtual 157, 3) := by decide +kernel
theorem d_K_isOverdue_19 : decode b_K_isOverdue 19 = .ok (.iconst 3, 1) := by decide +kernel
theorem d_K_isOverdue_20 : decode b_K_isOverdue 20 = .ok (.if_icmp .ne 23, 3) := by decide +kernel
theorem d_K_isOverdue_23 : decode b_K_isOverdue 23 = .ok (.aload_n 0, 1) := by decide +kernel
theorem d_K_isOverdue_24 : decode b_K_isOverdue 24 = .ok (.getfield 47, 3) := by decide +kernel
theorem d_K_isOverdue_27 : decode b_K_isOverdue 27 = .ok (.aload_n 0, 1) := by decide +kernel
theorem d_K_isOverdue_28 : decode b_K_isOverdue 28 = .ok (.getfield 23, 3) := by decide +kernel
theorem d_K_isOverdue_31 : decode b_K_isOverdue 31 = .ok (.iload_n 1, 1) := by decide +kernel
theorem d_K_isOverdue_32 : decode b_K_isOverdue 32 = .ok (.iaload, 1) := by decide +kernel
theorem d_K_isOverdue_33 : decode b_K_isOverdue 33 = .ok (.isub, 1) := by decide +kernel
theorem d_K_isOverdue_34 : decode b_K_isOverdue 34 = .ok (.bipush 100, 2) := by decide +kernel
theorem d_K_isOverdue_36 : decode b_K_isOverdue 36 = .ok (.if_icmp .le 7, 3) := by decide +kernel
theorem d_K_isOverdue_39 : decode b_K_isOverdue 39 = .ok (.iconst 1, 1) := by decide +kernel
theorem d_K_isOverdue_40 : decode b_K_isOverdue 40 = .ok (.goto 4, 3) := by decide +kernel
theorem d_K_isOverdue_43 : decode b_K_isOverdue 43 = .ok (.iconst 0, 1) := by decide +kernel
theorem d_K_isOverdue_44 : decode b_K_isOverdue 44 = .ok (.ireturn, 1) := by decide +kernel
theorem d_K_end_0 : decode b_K_end 0 = .ok (.aload_n 0, 1) := by decide +kernel
theorem d_K_end_1 : decode b_K_end 1 = .ok (.aload_n 1, 1) := by decide +kernel
theorem d_K_end_2 : decode b_K_end 2 = .ok (.invokevirtual 95, 3) := by decide +kernel
theorem d_K_end_5 : decode b_K_end 5 = .ok (.istore_n 2, 1) := by decide +kernel
theorem d_K_end_6 : decode b_K_end 6 = .ok (.aload_n 1, 1) := by decide +kernel
theorem d_K_end_7 : decode b_K_end 7 = .ok (.iconst (-1), 1) := by decide +kernel
theorem d_K_end_8 : decode b_K_end 8 = .ok (.putfield 120, 3) := by decide +kernel
theorem d_K_end_11 : decode b_K_end 11 = .ok (.aload_n 1, 1) := by decide +kernel
theorem d_K_end_12 : decode b_K_end 12 = .ok (.iconst 1, 1) := by decide +kernel
theorem d_K_end_13 : decode b_K_end 13 = .ok (.putfield 197, 3) := by decide +kernel
theorem d_K_end_16 : decode b_K_end 16 = .ok (.aload_n 0, 1) := by decide +kernel
theorem d_K_end_17 : decode b_K_end 17 = .ok (.aload_n 1, 1) := by decide +kernel
theorem d_K_end_18 : decode b_K_end 18 = .ok (.invokevirtual 123, 3) := by decide +kernel
theorem d_K_end_21 : decode b_K_end 21 = .ok (.iload_n 2, 1) := by decide +kernel
theorem d_K_end_22 : decode b_K_end 22 = .ok (.ifCond .eq 9, 3) := by decide +kernel
theorem d_K_end_25 : decode b_K_end 25 = .ok (.aload_n 0, 1) := by decide +kernel
theorem d_K_end_26 : decode b_K_end 26 = .ok (.iconst 4, 1) := by decide +kernel
theorem d_K_end_27 : decode b_K_end 27 = .ok (.aload_n 1, 1) := by decide +kernel
theorem d_K_end_28 : decode b_K_end 28 = .ok (.invokevirtual 127, 3) := by decide +kernel
theorem d_K_end_31 : decode b_K_end 31 = .ok (.return_, 1) := by decide +kernel
theorem d_K_tell_0 : decode b_K_tell 0 = .ok (.aload_n 0, 1) := by decide +kernel
theorem d_K_tell_1 : decode b_K_tell 1 = .ok (.getfield 44, 3) := by decide +kernel
theorem d_K_tell_4 : decode b_K_tell 4 = .ok (.aload_n 0, 1) := by decide +kernel
theorem d_K_tell_5 : decode b_K_tell 5 = .ok (.getfield 41, 3) := by decide +kernel
theorem d_K_tell_8 : decode b_K_tell 8 = .ok (.arraylength, 1) := by decide +kernel
theorem d_K_tell_9 : decode b_K_tell 9 = .ok (.if_icmp .ge 40, 3) := by decide +kernel
theorem d_K_tell_12 : decode b_K_tell 12 = .ok (.aload_n 0, 1) := by decide +kernel
theorem d_K_tell_13 : decode b_K_tell 13 = .ok (.getfield 41, 3) := by decide +kernel
theorem d_K_tell_16 : decode b_K_tell 16 = .ok (.aload_n 0, 1) := by decide +kernel
theorem d_K_tell_17 : decode b_K_tell 17 = .ok (.getfield 44, 3) := by decide +kernel
theorem d_K_tell_20 : decode b_K_tell 20 = .ok (.sipush 1000, 3) := by decide +kernel
theorem d_K_tell_23 : decode b_K_tell 23 = .ok (.iload_n 1, 1) := by decide +kernel
theorem d_K_tell_24 : decode b_K_tell 24 = .ok (.imul, 1) := by decide +kernel
theorem d_K_tell_25 : decode b_K_tell 25 = .ok (.bipush 100, 2) := by decide +kernel
theorem d_K_tell_27 : decode b_K_tell 27 = .ok (.aload_n 2, 1) := by decide +kernel
theorem d_K_tell_28 : decode b_K_tell 28 = .ok (.getfield 117, 3) := by decide +kernel
theorem d_K_tell_31 : decode b_K_tell 31 = .ok (.imul, 1) := by decide +kernel
theorem d_K_tell_32 : decode b_K_tell 32 = .ok (.iadd, 1) := by decide +kernel
theorem d_K_tell_33 : decode b_K_tell 33 = .ok (.aload_n 2, 1) := by decide +kernel
theorem d_K_tell_34 : decode b_K_tell 34 = .ok (.getfield 92, 3) := by decide +kernel
theorem d_K_tell_37 : decode b_K_tell 37 = .ok (.iadd, 1) := by decide +kernel
theorem d_K_tell_38 : decode b_K_tell 38 = .ok (.iastore, 1) := by decide +kernel
theorem d_K_tell_39 : decode b_K_tell 39 = .ok (.aload_n 0, 1) := by decide +kernel
theorem d_K_tell_40 : decode b_K_tell 40 = .ok (.dup, 1) := by decide +kernel
theorem d_K_tell_41 : decode b_K_tell 41 = .ok (.getfield 44, 3) := by decide +kernel
theorem d_K_tell_44 : decode b_K_tell 44 = .ok (.iconst 1, 1) := by decide +kernel
theorem d_K_tell_45 : decode b_K_tell 45 = .ok (.iadd, 1) := by decide +kernel
theorem d_K_tell_46 : decode b_K_tell 46 = .ok (.putfield 44, 3) := by decide +kernel
theorem d_K_tell_49 : decode b_K_tell 49 = .ok (.return_, 1) := by decide +kernel
