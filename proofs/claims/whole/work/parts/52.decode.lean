theorem d_EM_turned_0 : decode b_EM_turned 0 = .ok (.iload_n 2, 1) := by decide +kernel
theorem d_EM_turned_1 : decode b_EM_turned 1 = .ok (.ifCond .lt 27, 3) := by decide +kernel
theorem d_EM_turned_4 : decode b_EM_turned 4 = .ok (.iload_n 2, 1) := by decide +kernel
theorem d_EM_turned_5 : decode b_EM_turned 5 = .ok (.iconst 2, 1) := by decide +kernel
theorem d_EM_turned_6 : decode b_EM_turned 6 = .ok (.if_icmp .gt 22, 3) := by decide +kernel
theorem d_EM_turned_9 : decode b_EM_turned 9 = .ok (.iload_n 1, 1) := by decide +kernel
theorem d_EM_turned_10 : decode b_EM_turned 10 = .ok (.ifCond .lt 18, 3) := by decide +kernel
theorem d_EM_turned_13 : decode b_EM_turned 13 = .ok (.iload_n 1, 1) := by decide +kernel
theorem d_EM_turned_14 : decode b_EM_turned 14 = .ok (.iconst 2, 1) := by decide +kernel
theorem d_EM_turned_15 : decode b_EM_turned 15 = .ok (.if_icmp .gt 13, 3) := by decide +kernel
theorem d_EM_turned_18 : decode b_EM_turned 18 = .ok (.iload_n 1, 1) := by decide +kernel
theorem d_EM_turned_19 : decode b_EM_turned 19 = .ok (.iconst 2, 1) := by decide +kernel
theorem d_EM_turned_20 : decode b_EM_turned 20 = .ok (.if_icmp .ne 10, 3) := by decide +kernel
theorem d_EM_turned_23 : decode b_EM_turned 23 = .ok (.iload_n 2, 1) := by decide +kernel
theorem d_EM_turned_24 : decode b_EM_turned 24 = .ok (.iconst 2, 1) := by decide +kernel
theorem d_EM_turned_25 : decode b_EM_turned 25 = .ok (.if_icmp .ne 5, 3) := by decide +kernel
theorem d_EM_turned_28 : decode b_EM_turned 28 = .ok (.iconst 0, 1) := by decide +kernel
theorem d_EM_turned_29 : decode b_EM_turned 29 = .ok (.ireturn, 1) := by decide +kernel
theorem d_EM_turned_30 : decode b_EM_turned 30 = .ok (.iload_n 1, 1) := by decide +kernel
theorem d_EM_turned_31 : decode b_EM_turned 31 = .ok (.ifCond .ne 12, 3) := by decide +kernel
theorem d_EM_turned_34 : decode b_EM_turned 34 = .ok (.aload_n 0, 1) := by decide +kernel
theorem d_EM_turned_35 : decode b_EM_turned 35 = .ok (.getfield 13, 3) := by decide +kernel
theorem d_EM_turned_38 : decode b_EM_turned 38 = .ok (.iload_n 2, 1) := by decide +kernel
theorem d_EM_turned_39 : decode b_EM_turned 39 = .ok (.baload, 1) := by decide +kernel
theorem d_EM_turned_40 : decode b_EM_turned 40 = .ok (.goto 23, 3) := by decide +kernel
theorem d_EM_turned_43 : decode b_EM_turned 43 = .ok (.iload_n 1, 1) := by decide +kernel
theorem d_EM_turned_44 : decode b_EM_turned 44 = .ok (.iconst 1, 1) := by decide +kernel
theorem d_EM_turned_45 : decode b_EM_turned 45 = .ok (.if_icmp .ne 12, 3) := by decide +kernel
theorem d_EM_turned_48 : decode b_EM_turned 48 = .ok (.aload_n 0, 1) := by decide +kernel
theorem d_EM_turned_49 : decode b_EM_turned 49 = .ok (.getfield 20, 3) := by decide +kernel
theorem d_EM_turned_52 : decode b_EM_turned 52 = .ok (.iload_n 2, 1) := by decide +kernel
theorem d_EM_turned_53 : decode b_EM_turned 53 = .ok (.baload, 1) := by decide +kernel
theorem d_EM_turned_54 : decode b_EM_turned 54 = .ok (.goto 9, 3) := by decide +kernel
theorem d_EM_turned_57 : decode b_EM_turned 57 = .ok (.aload_n 0, 1) := by decide +kernel
theorem d_EM_turned_58 : decode b_EM_turned 58 = .ok (.getfield 44, 3) := by decide +kernel
theorem d_EM_turned_61 : decode b_EM_turned 61 = .ok (.iload_n 2, 1) := by decide +kernel
theorem d_EM_turned_62 : decode b_EM_turned 62 = .ok (.baload, 1) := by decide +kernel
theorem d_EM_turned_63 : decode b_EM_turned 63 = .ok (.istore 4, 2) := by decide +kernel
theorem d_EM_turned_65 : decode b_EM_turned 65 = .ok (.iload_n 1, 1) := by decide +kernel
theorem d_EM_turned_66 : decode b_EM_turned 66 = .ok (.ifCond .ne 13, 3) := by decide +kernel
theorem d_EM_turned_69 : decode b_EM_turned 69 = .ok (.aload_n 0, 1) := by decide +kernel
theorem d_EM_turned_70 : decode b_EM_turned 70 = .ok (.getfield 13, 3) := by decide +kernel
theorem d_EM_turned_73 : decode b_EM_turned 73 = .ok (.iload_n 2, 1) := by decide +kernel
theorem d_EM_turned_74 : decode b_EM_turned 74 = .ok (.iload_n 3, 1) := by decide +kernel
theorem d_EM_turned_75 : decode b_EM_turned 75 = .ok (.bastore, 1) := by decide +kernel
theorem d_EM_turned_76 : decode b_EM_turned 76 = .ok (.goto 25, 3) := by decide +kernel
theorem d_EM_turned_79 : decode b_EM_turned 79 = .ok (.iload_n 1, 1) := by decide +kernel
theorem d_EM_turned_80 : decode b_EM_turned 80 = .ok (.iconst 1, 1) := by decide +kernel
theorem d_EM_turned_81 : decode b_EM_turned 81 = .ok (.if_icmp .ne 13, 3) := by decide +kernel
theorem d_EM_turned_84 : decode b_EM_turned 84 = .ok (.aload_n 0, 1) := by decide +kernel
theorem d_EM_turned_85 : decode b_EM_turned 85 = .ok (.getfield 20, 3) := by decide +kernel
theorem d_EM_turned_88 : decode b_EM_turned 88 = .ok (.iload_n 2, 1) := by decide +kernel
theorem d_EM_turned_89 : decode b_EM_turned 89 = .ok (.iload_n 3, 1) := by decide +kernel
theorem d_EM_turned_90 : decode b_EM_turned 90 = .ok (.bastore, 1) := by decide +kernel
theorem d_EM_turned_91 : decode b_EM_turned 91 = .ok (.goto 10, 3) := by decide +kernel
theorem d_EM_turned_94 : decode b_EM_turned 94 = .ok (.aload_n 0, 1) := by decide +kernel
theorem d_EM_turned_95 : decode b_EM_turned 95 = .ok (.getfield 44, 3) := by decide +kernel
theorem d_EM_turned_98 : decode b_EM_turned 98 = .ok (.iload_n 2, 1) := by decide +kernel
theorem d_EM_turned_99 : decode b_EM_turned 99 = .ok (.iload_n 3, 1) := by decide +kernel
theorem d_EM_turned_100 : decode b_EM_turned 100 = .ok (.bastore, 1) := by decide +kernel
theorem d_EM_turned_101 : decode b_EM_turned 101 = .ok (.iload 4, 2) := by decide +kernel
theorem d_EM_turned_103 : decode b_EM_turned 103 = .ok (.iload_n 3, 1) := by decide +kernel
theorem d_EM_turned_104 : decode b_EM_turned 104 = .ok (.if_icmp .eq 7, 3) := by decide +kernel
theorem d_EM_turned_107 : decode b_EM_turned 107 = .ok (.iconst 1, 1) := by decide +kernel
theorem d_EM_turned_108 : decode b_EM_turned 108 = .ok (.goto 4, 3) := by decide +kernel
theorem d_EM_turned_111 : decode b_EM_turned 111 = .ok (.iconst 0, 1) := by decide +kernel
theorem d_EM_turned_112 : decode b_EM_turned 112 = .ok (.ireturn, 1) := by decide +kernel
theorem d_EM_stop_0 : decode b_EM_stop 0 = .ok (.iload_n 1, 1) := by decide +kernel
theorem d_EM_stop_1 : decode b_EM_stop 1 = .ok (.iconst 3, 1) := by decide +kernel
theorem d_EM_stop_2 : decode b_EM_stop 2 = .ok (.if_icmp .ne 22, 3) := by decide +kernel
theorem d_EM_stop_5 : decode b_EM_stop 5 = .ok (.aload_n 0, 1) := by decide +kernel
theorem d_EM_stop_6 : decode b_EM_stop 6 = .ok (.iload_n 2, 1) := by decide +kernel
theorem d_EM_stop_7 : decode b_EM_stop 7 = .ok (.invokevirtual 231, 3) := by decide +kernel
theorem d_EM_stop_10 : decode b_EM_stop 10 = .ok (.istore_n 3, 1) := by decide +kernel
theorem d_EM_stop_11 : decode b_EM_stop 11 = .ok (.iload_n 3, 1) := by decide +kernel
theorem d_EM_stop_12 : decode b_EM_stop 12 = .ok (.ifCond .eq 10, 3) := by decide +kernel
theorem d_EM_stop_15 : decode b_EM_stop 15 = .ok (.aload_n 0, 1) := by decide +kernel
theorem d_EM_stop_16 : decode b_EM_stop 16 = .ok (.getfield 62, 3) := by decide +kernel
theorem d_EM_stop_19 : decode b_EM_stop 19 = .ok (.iload_n 2, 1) := by decide +kernel
theorem d_EM_stop_20 : decode b_EM_stop 20 = .ok (.iconst 0, 1) := by decide +kernel
theorem d_EM_stop_21 : decode b_EM_stop 21 = .ok (.bastore, 1) := by decide +kernel
theorem d_EM_stop_22 : decode b_EM_stop 22 = .ok (.iload_n 3, 1) := by decide +kernel
theorem d_EM_stop_23 : decode b_EM_stop 23 = .ok (.ireturn, 1) := by decide +kernel
theorem d_EM_stop_24 : decode b_EM_stop 24 = .ok (.aload_n 0, 1) := by decide +kernel
theorem d_EM_stop_25 : decode b_EM_stop 25 = .ok (.iload_n 1, 1) := by decide +kernel
theorem d_EM_stop_26 : decode b_EM_stop 26 = .ok (.iload_n 2, 1) := by decide +kernel
theorem d_EM_stop_27 : decode b_EM_stop 27 = .ok (.iconst 0, 1) := by decide +kernel
theorem d_EM_stop_28 : decode b_EM_stop 28 = .ok (.invokevirtual 273, 3) := by decide +kernel
theorem d_EM_stop_31 : decode b_EM_stop 31 = .ok (.ireturn, 1) := by decide +kernel
theorem d_EM_start_0 : decode b_EM_start 0 = .ok (.aload_n 0, 1) := by decide +kernel
theorem d_EM_start_1 : decode b_EM_start 1 = .ok (.iload_n 1, 1) := by decide +kernel
theorem d_EM_start_2 : decode b_EM_start 2 = .ok (.iload_n 2, 1) := by decide +kernel
theorem d_EM_start_3 : decode b_EM_start 3 = .ok (.iconst 1, 1) := by decide +kernel
theorem d_EM_start_4 : decode b_EM_start 4 = .ok (.invokevirtual 273, 3) := by decide +kernel
theorem d_EM_start_7 : decode b_EM_start 7 = .ok (.ireturn, 1) := by decide +kernel
theorem d_EM_log_0 : decode b_EM_log 0 = .ok (.iload_n 1, 1) := by decide +kernel
theorem d_EM_log_1 : decode b_EM_log 1 = .ok (.ifCond .lt 8, 3) := by decide +kernel
theorem d_EM_log_4 : decode b_EM_log 4 = .ok (.iload_n 1, 1) := by decide +kernel
theorem d_EM_log_5 : decode b_EM_log 5 = .ok (.iconst 2, 1) := by decide +kernel
theorem d_EM_log_6 : decode b_EM_log 6 = .ok (.if_icmp .le 7, 3) := by decide +kernel
theorem d_EM_log_9 : decode b_EM_log 9 = .ok (.iconst (-1), 1) := by decide +kernel
theorem d_EM_log_10 : decode b_EM_log 10 = .ok (.goto 48, 3) := by decide +kernel
theorem d_EM_log_13 : decode b_EM_log 13 = .ok (.aload_n 0, 1) := by decide +kernel
theorem d_EM_log_14 : decode b_EM_log 14 = .ok (.getfield 26, 3) := by decide +kernel
theorem d_EM_log_17 : decode b_EM_log 17 = .ok (.iload_n 1, 1) := by decide +kernel
theorem d_EM_log_18 : decode b_EM_log 18 = .ok (.iaload, 1) := by decide +kernel
theorem d_EM_log_19 : decode b_EM_log 19 = .ok (.sipush 128, 3) := by decide +kernel
theorem d_EM_log_22 : decode b_EM_log 22 = .ok (.aload_n 0, 1) := by decide +kernel
theorem d_EM_log_23 : decode b_EM_log 23 = .ok (.getfield 17, 3) := by decide +kernel
theorem d_EM_log_26 : decode b_EM_log 26 = .ok (.iload_n 1, 1) := by decide +kernel
theorem d_EM_log_27 : decode b_EM_log 27 = .ok (.iaload, 1) := by decide +kernel
theorem d_EM_log_28 : decode b_EM_log 28 = .ok (.imul, 1) := by decide +kernel
theorem d_EM_log_29 : decode b_EM_log 29 = .ok (.iadd, 1) := by decide +kernel
theorem d_EM_log_30 : decode b_EM_log 30 = .ok (.sipush 2048, 3) := by decide +kernel
theorem d_EM_log_33 : decode b_EM_log 33 = .ok (.aload_n 0, 1) := by decide +kernel
theorem d_EM_log_34 : decode b_EM_log 34 = .ok (.getfield 23, 3) := by decide +kernel
theorem d_EM_log_37 : decode b_EM_log 37 = .ok (.iload_n 1, 1) := by decide +kernel
theorem d_EM_log_38 : decode b_EM_log 38 = .ok (.iaload, 1) := by decide +kernel
theorem d_EM_log_39 : decode b_EM_log 39 = .ok (.imul, 1) := by decide +kernel
theorem d_EM_log_40 : decode b_EM_log 40 = .ok (.iadd, 1) := by decide +kernel
theorem d_EM_log_41 : decode b_EM_log 41 = .ok (.aload_n 0, 1) := by decide +kernel
theorem d_EM_log_42 : decode b_EM_log 42 = .ok (.getfield 20, 3) := by decide +kernel
theorem d_EM_log_45 : decode b_EM_log 45 = .ok (.iload_n 1, 1) := by decide +kernel
theorem d_EM_log_46 : decode b_EM_log 46 = .ok (.baload, 1) := by decide +kernel
theorem d_EM_log_47 : decode b_EM_log 47 = .ok (.ifCond .eq 9, 3) := by decide +kernel
theorem d_EM_log_50 : decode b_EM_log 50 = .ok (.ldc_w 277, 3) := by decide +kernel
theorem d_EM_log_53 : decode b_EM_log 53 = .ok (.goto 4, 3) := by decide +kernel
theorem d_EM_log_56 : decode b_EM_log 56 = .ok (.iconst 0, 1) := by decide +kernel
theorem d_EM_log_57 : decode b_EM_log 57 = .ok (.iadd, 1) := by decide +kernel
theorem d_EM_log_58 : decode b_EM_log 58 = .ok (.ireturn, 1) := by decide +kernel
theorem d_EM_storage_0 : decode b_EM_storage 0 = .ok (.iload_n 1, 1) := by decide +kernel
theorem d_EM_storage_1 : decode b_EM_storage 1 = .ok (.ifCond .lt 8, 3) := by decide +kernel
theorem d_EM_storage_4 : decode b_EM_storage 4 = .ok (.iload_n 1, 1) := by decide +kernel
theorem d_EM_storage_5 : decode b_EM_storage 5 = .ok (.iconst 1, 1) := by decide +kernel
theorem d_EM_storage_6 : decode b_EM_storage 6 = .ok (.if_icmp .le 7, 3) := by decide +kernel
theorem d_EM_storage_9 : decode b_EM_storage 9 = .ok (.iconst (-1), 1) := by decide +kernel
theorem d_EM_storage_10 : decode b_EM_storage 10 = .ok (.goto 48, 3) := by decide +kernel
theorem d_EM_storage_13 : decode b_EM_storage 13 = .ok (.aload_n 0, 1) := by decide +kernel
theorem d_EM_storage_14 : decode b_EM_storage 14 = .ok (.getfield 50, 3) := by decide +kernel
theorem d_EM_storage_17 : decode b_EM_storage 17 = .ok (.iload_n 1, 1) := by decide +kernel
theorem d_EM_storage_18 : decode b_EM_storage 18 = .ok (.iaload, 1) := by decide +kernel
theorem d_EM_storage_19 : decode b_EM_storage 19 = .ok (.sipush 128, 3) := by decide +kernel
theorem d_EM_storage_22 : decode b_EM_storage 22 = .ok (.aload_n 0, 1) := by decide +kernel
theorem d_EM_storage_23 : decode b_EM_storage 23 = .ok (.getfield 41, 3) := by decide +kernel
theorem d_EM_storage_26 : decode b_EM_storage 26 = .ok (.iload_n 1, 1) := by decide +kernel
theorem d_EM_storage_27 : decode b_EM_storage 27 = .ok (.iaload, 1) := by decide +kernel
theorem d_EM_storage_28 : decode b_EM_storage 28 = .ok (.imul, 1) := by decide +kernel
theorem d_EM_storage_29 : decode b_EM_storage 29 = .ok (.iadd, 1) := by decide +kernel
theorem d_EM_storage_30 : decode b_EM_storage 30 = .ok (.sipush 2048, 3) := by decide +kernel
theorem d_EM_storage_33 : decode b_EM_storage 33 = .ok (.aload_n 0, 1) := by decide +kernel
theorem d_EM_storage_34 : decode b_EM_storage 34 = .ok (.getfield 47, 3) := by decide +kernel
theorem d_EM_storage_37 : decode b_EM_storage 37 = .ok (.iload_n 1, 1) := by decide +kernel
theorem d_EM_storage_38 : decode b_EM_storage 38 = .ok (.iaload, 1) := by decide +kernel
theorem d_EM_storage_39 : decode b_EM_storage 39 = .ok (.imul, 1) := by decide +kernel
theorem d_EM_storage_40 : decode b_EM_storage 40 = .ok (.iadd, 1) := by decide +kernel
theorem d_EM_storage_41 : decode b_EM_storage 41 = .ok (.aload_n 0, 1) := by decide +kernel
theorem d_EM_storage_42 : decode b_EM_storage 42 = .ok (.getfield 44, 3) := by decide +kernel
theorem d_EM_storage_45 : decode b_EM_storage 45 = .ok (.iload_n 1, 1) := by decide +kernel
theorem d_EM_storage_46 : decode b_EM_storage 46 = .ok (.baload, 1) := by decide +kernel
theorem d_EM_storage_47 : decode b_EM_storage 47 = .ok (.ifCond .eq 9, 3) := by decide +kernel
theorem d_EM_storage_50 : decode b_EM_storage 50 = .ok (.ldc_w 277, 3) := by decide +kernel
theorem d_EM_storage_53 : decode b_EM_storage 53 = .ok (.goto 4, 3) := by decide +kernel
theorem d_EM_storage_56 : decode b_EM_storage 56 = .ok (.iconst 0, 1) := by decide +kernel
theorem d_EM_storage_57 : decode b_EM_storage 57 = .ok (.iadd, 1) := by decide +kernel
theorem d_EM_storage_58 : decode b_EM_storage 58 = .ok (.ireturn, 1) := by decide +kernel
theorem d_EM_coordinator_0 : decode b_EM_coordinator 0 = .ok (.iload_n 1, 1) := by decide +kernel
theorem d_EM_coordinator_1 : decode b_EM_coordinator 1 = .ok (.ifCond .lt 8, 3) := by decide +kernel
theorem d_EM_coordinator_4 : decode b_EM_coordinator 4 = .ok (.iload_n 1, 1) := by decide +kernel
theorem d_EM_coordinator_5 : decode b_EM_coordinator 5 = .ok (.iconst 2, 1) := by decide +kernel
theorem d_EM_coordinator_6 : decode b_EM_coordinator 6 = .ok (.if_icmp .le 7, 3) := by decide +kernel
theorem d_EM_coordinator_9 : decode b_EM_coordinator 9 = .ok (.iconst (-1), 1) := by decide +kernel
theorem d_EM_coordinator_10 : decode b_EM_coordinator 10 = .ok (.goto 25, 3) := by decide +kernel
theorem d_EM_coordinator_13 : decode b_EM_coordinator 13 = .ok (.aload_n 0, 1) := by decide +kernel
theorem d_EM_coordinator_14 : decode b_EM_coordinator 14 = .ok (.getfield 7, 3) := by decide +kernel
theorem d_EM_coordinator_17 : decode b_EM_coordinator 17 = .ok (.iload_n 1, 1) := by decide +kernel
theorem d_EM_coordinator_18 : decode b_EM_coordinator 18 = .ok (.iaload, 1) := by decide +kernel
theorem d_EM_coordinator_19 : decode b_EM_coordinator 19 = .ok (.aload_n 0, 1) := by decide +kernel
theorem d_EM_coordinator_20 : decode b_EM_coordinator 20 = .ok (.getfield 13, 3) := by decide +kernel
theorem d_EM_coordinator_23 : decode b_EM_coordinator 23 = .ok (.iload_n 1, 1) := by decide +kernel
theorem d_EM_coordinator_24 : decode b_EM_coordinator 24 = .ok (.baload, 1) := by decide +kernel
theorem d_EM_coordinator_25 : decode b_EM_coordinator 25 = .ok (.ifCond .eq 8, 3) := by decide +kernel
theorem d_EM_coordinator_28 : decode b_EM_coordinator 28 = .ok (.bipush 16, 2) := by decide +kernel
theorem d_EM_coordinator_30 : decode b_EM_coordinator 30 = .ok (.goto 4, 3) := by decide +kernel
theorem d_EM_coordinator_33 : decode b_EM_coordinator 33 = .ok (.iconst 0, 1) := by decide +kernel
theorem d_EM_coordinator_34 : decode b_EM_coordinator 34 = .ok (.iadd, 1) := by decide +kernel
theorem d_EM_coordinator_35 : decode b_EM_coordinator 35 = .ok (.ireturn, 1) := by decide +kernel
