theorem d_ES_beginEpoch_0 : decode b_ES_beginEpoch 0 = .ok (.aload_n 2, 1) := by decide +kernel
theorem d_ES_beginEpoch_1 : decode b_ES_beginEpoch 1 = .ok (.getfield 227, 3) := by decide +kernel
theorem d_ES_beginEpoch_4 : decode b_ES_beginEpoch 4 = .ok (.istore_n 3, 1) := by decide +kernel
theorem d_ES_beginEpoch_5 : decode b_ES_beginEpoch 5 = .ok (.iload_n 3, 1) := by decide +kernel
theorem d_ES_beginEpoch_6 : decode b_ES_beginEpoch 6 = .ok (.bipush 10, 2) := by decide +kernel
theorem d_ES_beginEpoch_8 : decode b_ES_beginEpoch 8 = .ok (.iadd, 1) := by decide +kernel
theorem d_ES_beginEpoch_9 : decode b_ES_beginEpoch 9 = .ok (.istore 4, 2) := by decide +kernel
theorem d_ES_beginEpoch_11 : decode b_ES_beginEpoch 11 = .ok (.iconst 0, 1) := by decide +kernel
theorem d_ES_beginEpoch_12 : decode b_ES_beginEpoch 12 = .ok (.istore 5, 2) := by decide +kernel
theorem d_ES_beginEpoch_14 : decode b_ES_beginEpoch 14 = .ok (.iconst 0, 1) := by decide +kernel
theorem d_ES_beginEpoch_15 : decode b_ES_beginEpoch 15 = .ok (.istore 6, 2) := by decide +kernel
theorem d_ES_beginEpoch_17 : decode b_ES_beginEpoch 17 = .ok (.iload 6, 2) := by decide +kernel
theorem d_ES_beginEpoch_19 : decode b_ES_beginEpoch 19 = .ok (.iconst 3, 1) := by decide +kernel
theorem d_ES_beginEpoch_20 : decode b_ES_beginEpoch 20 = .ok (.if_icmp .ge 56, 3) := by decide +kernel
theorem d_ES_beginEpoch_23 : decode b_ES_beginEpoch 23 = .ok (.aload_n 0, 1) := by decide +kernel
theorem d_ES_beginEpoch_24 : decode b_ES_beginEpoch 24 = .ok (.getfield 17, 3) := by decide +kernel
theorem d_ES_beginEpoch_27 : decode b_ES_beginEpoch 27 = .ok (.iload 6, 2) := by decide +kernel
theorem d_ES_beginEpoch_29 : decode b_ES_beginEpoch 29 = .ok (.aaload, 1) := by decide +kernel
theorem d_ES_beginEpoch_30 : decode b_ES_beginEpoch 30 = .ok (.getfield 178, 3) := by decide +kernel
theorem d_ES_beginEpoch_33 : decode b_ES_beginEpoch 33 = .ok (.ifCond .eq 37, 3) := by decide +kernel
theorem d_ES_beginEpoch_36 : decode b_ES_beginEpoch 36 = .ok (.aload_n 0, 1) := by decide +kernel
theorem d_ES_beginEpoch_37 : decode b_ES_beginEpoch 37 = .ok (.getfield 17, 3) := by decide +kernel
theorem d_ES_beginEpoch_40 : decode b_ES_beginEpoch 40 = .ok (.iload 6, 2) := by decide +kernel
theorem d_ES_beginEpoch_42 : decode b_ES_beginEpoch 42 = .ok (.aaload, 1) := by decide +kernel
theorem d_ES_beginEpoch_43 : decode b_ES_beginEpoch 43 = .ok (.aload_n 2, 1) := by decide +kernel
theorem d_ES_beginEpoch_44 : decode b_ES_beginEpoch 44 = .ok (.invokevirtual 230, 3) := by decide +kernel
theorem d_ES_beginEpoch_47 : decode b_ES_beginEpoch 47 = .ok (.aload_n 0, 1) := by decide +kernel
theorem d_ES_beginEpoch_48 : decode b_ES_beginEpoch 48 = .ok (.getfield 17, 3) := by decide +kernel
theorem d_ES_beginEpoch_51 : decode b_ES_beginEpoch 51 = .ok (.iload 6, 2) := by decide +kernel
theorem d_ES_beginEpoch_53 : decode b_ES_beginEpoch 53 = .ok (.aaload, 1) := by decide +kernel
theorem d_ES_beginEpoch_54 : decode b_ES_beginEpoch 54 = .ok (.iload_n 1, 1) := by decide +kernel
theorem d_ES_beginEpoch_55 : decode b_ES_beginEpoch 55 = .ok (.iload_n 3, 1) := by decide +kernel
theorem d_ES_beginEpoch_56 : decode b_ES_beginEpoch 56 = .ok (.iload 4, 2) := by decide +kernel
theorem d_ES_beginEpoch_58 : decode b_ES_beginEpoch 58 = .ok (.invokevirtual 234, 3) := by decide +kernel
theorem d_ES_beginEpoch_61 : decode b_ES_beginEpoch 61 = .ok (.iload 5, 2) := by decide +kernel
theorem d_ES_beginEpoch_63 : decode b_ES_beginEpoch 63 = .ok (.iconst 1, 1) := by decide +kernel
theorem d_ES_beginEpoch_64 : decode b_ES_beginEpoch 64 = .ok (.iload 6, 2) := by decide +kernel
theorem d_ES_beginEpoch_66 : decode b_ES_beginEpoch 66 = .ok (.ishl, 1) := by decide +kernel
theorem d_ES_beginEpoch_67 : decode b_ES_beginEpoch 67 = .ok (.ior, 1) := by decide +kernel
theorem d_ES_beginEpoch_68 : decode b_ES_beginEpoch 68 = .ok (.istore 5, 2) := by decide +kernel
theorem d_ES_beginEpoch_70 : decode b_ES_beginEpoch 70 = .ok (.iinc 6 1, 3) := by decide +kernel
theorem d_ES_beginEpoch_73 : decode b_ES_beginEpoch 73 = .ok (.goto (-56), 3) := by decide +kernel
theorem d_ES_beginEpoch_76 : decode b_ES_beginEpoch 76 = .ok (.aload_n 0, 1) := by decide +kernel
theorem d_ES_beginEpoch_77 : decode b_ES_beginEpoch 77 = .ok (.getfield 35, 3) := by decide +kernel
theorem d_ES_beginEpoch_80 : decode b_ES_beginEpoch 80 = .ok (.iload_n 1, 1) := by decide +kernel
theorem d_ES_beginEpoch_81 : decode b_ES_beginEpoch 81 = .ok (.new 33, 3) := by decide +kernel
theorem d_ES_beginEpoch_84 : decode b_ES_beginEpoch 84 = .ok (.dup, 1) := by decide +kernel
theorem d_ES_beginEpoch_85 : decode b_ES_beginEpoch 85 = .ok (.iload_n 1, 1) := by decide +kernel
theorem d_ES_beginEpoch_86 : decode b_ES_beginEpoch 86 = .ok (.iload 5, 2) := by decide +kernel
theorem d_ES_beginEpoch_88 : decode b_ES_beginEpoch 88 = .ok (.iload 4, 2) := by decide +kernel
theorem d_ES_beginEpoch_90 : decode b_ES_beginEpoch 90 = .ok (.invokespecial 52, 3) := by decide +kernel
theorem d_ES_beginEpoch_93 : decode b_ES_beginEpoch 93 = .ok (.aastore, 1) := by decide +kernel
theorem d_ES_beginEpoch_94 : decode b_ES_beginEpoch 94 = .ok (.return_, 1) := by decide +kernel
theorem d_ES_recover_0 : decode b_ES_recover 0 = .ok (.aload_n 0, 1) := by decide +kernel
theorem d_ES_recover_1 : decode b_ES_recover 1 = .ok (.invokevirtual 55, 3) := by decide +kernel
theorem d_ES_recover_4 : decode b_ES_recover 4 = .ok (.istore_n 2, 1) := by decide +kernel
theorem d_ES_recover_5 : decode b_ES_recover 5 = .ok (.iload_n 2, 1) := by decide +kernel
theorem d_ES_recover_6 : decode b_ES_recover 6 = .ok (.iconst (-1), 1) := by decide +kernel
theorem d_ES_recover_7 : decode b_ES_recover 7 = .ok (.if_icmp .eq 41, 3) := by decide +kernel
theorem d_ES_recover_10 : decode b_ES_recover 10 = .ok (.iload_n 2, 1) := by decide +kernel
theorem d_ES_recover_11 : decode b_ES_recover 11 = .ok (.bipush 9, 2) := by decide +kernel
theorem d_ES_recover_13 : decode b_ES_recover 13 = .ok (.if_icmp .ge 35, 3) := by decide +kernel
theorem d_ES_recover_16 : decode b_ES_recover 16 = .ok (.iload_n 1, 1) := by decide +kernel
theorem d_ES_recover_17 : decode b_ES_recover 17 = .ok (.invokestatic 167, 3) := by decide +kernel
theorem d_ES_recover_20 : decode b_ES_recover 20 = .ok (.ifCond .eq 28, 3) := by decide +kernel
theorem d_ES_recover_23 : decode b_ES_recover 23 = .ok (.aload_n 0, 1) := by decide +kernel
theorem d_ES_recover_24 : decode b_ES_recover 24 = .ok (.getfield 17, 3) := by decide +kernel
theorem d_ES_recover_27 : decode b_ES_recover 27 = .ok (.iload_n 1, 1) := by decide +kernel
theorem d_ES_recover_28 : decode b_ES_recover 28 = .ok (.aaload, 1) := by decide +kernel
theorem d_ES_recover_29 : decode b_ES_recover 29 = .ok (.getfield 178, 3) := by decide +kernel
theorem d_ES_recover_32 : decode b_ES_recover 32 = .ok (.ifCond .eq 16, 3) := by decide +kernel
theorem d_ES_recover_35 : decode b_ES_recover 35 = .ok (.aload_n 0, 1) := by decide +kernel
theorem d_ES_recover_36 : decode b_ES_recover 36 = .ok (.getfield 17, 3) := by decide +kernel
theorem d_ES_recover_39 : decode b_ES_recover 39 = .ok (.iload_n 1, 1) := by decide +kernel
theorem d_ES_recover_40 : decode b_ES_recover 40 = .ok (.aaload, 1) := by decide +kernel
theorem d_ES_recover_41 : decode b_ES_recover 41 = .ok (.getfield 182, 3) := by decide +kernel
theorem d_ES_recover_44 : decode b_ES_recover 44 = .ok (.iload_n 2, 1) := by decide +kernel
theorem d_ES_recover_45 : decode b_ES_recover 45 = .ok (.if_icmp .eq 5, 3) := by decide +kernel
theorem d_ES_recover_48 : decode b_ES_recover 48 = .ok (.iconst (-1), 1) := by decide +kernel
theorem d_ES_recover_49 : decode b_ES_recover 49 = .ok (.ireturn, 1) := by decide +kernel
theorem d_ES_recover_50 : decode b_ES_recover 50 = .ok (.aload_n 0, 1) := by decide +kernel
theorem d_ES_recover_51 : decode b_ES_recover 51 = .ok (.iload_n 2, 1) := by decide +kernel
theorem d_ES_recover_52 : decode b_ES_recover 52 = .ok (.iconst 1, 1) := by decide +kernel
theorem d_ES_recover_53 : decode b_ES_recover 53 = .ok (.iadd, 1) := by decide +kernel
theorem d_ES_recover_54 : decode b_ES_recover 54 = .ok (.invokevirtual 183, 3) := by decide +kernel
theorem d_ES_recover_57 : decode b_ES_recover 57 = .ok (.aload_n 0, 1) := by decide +kernel
theorem d_ES_recover_58 : decode b_ES_recover 58 = .ok (.iload_n 2, 1) := by decide +kernel
theorem d_ES_recover_59 : decode b_ES_recover 59 = .ok (.iconst 1, 1) := by decide +kernel
theorem d_ES_recover_60 : decode b_ES_recover 60 = .ok (.iadd, 1) := by decide +kernel
theorem d_ES_recover_61 : decode b_ES_recover 61 = .ok (.aload_n 0, 1) := by decide +kernel
theorem d_ES_recover_62 : decode b_ES_recover 62 = .ok (.getfield 17, 3) := by decide +kernel
theorem d_ES_recover_65 : decode b_ES_recover 65 = .ok (.iload_n 1, 1) := by decide +kernel
theorem d_ES_recover_66 : decode b_ES_recover 66 = .ok (.aaload, 1) := by decide +kernel
theorem d_ES_recover_67 : decode b_ES_recover 67 = .ok (.invokevirtual 186, 3) := by decide +kernel
theorem d_ES_recover_70 : decode b_ES_recover 70 = .ok (.iload_n 2, 1) := by decide +kernel
theorem d_ES_recover_71 : decode b_ES_recover 71 = .ok (.iconst 1, 1) := by decide +kernel
theorem d_ES_recover_72 : decode b_ES_recover 72 = .ok (.iadd, 1) := by decide +kernel
theorem d_ES_recover_73 : decode b_ES_recover 73 = .ok (.ireturn, 1) := by decide +kernel
theorem d_Log_code_0 : decode b_Log_code 0 = .ok (.aload_n 0, 1) := by decide +kernel
theorem d_Log_code_1 : decode b_Log_code 1 = .ok (.getfield 35, 3) := by decide +kernel
theorem d_Log_code_4 : decode b_Log_code 4 = .ok (.sipush 128, 3) := by decide +kernel
theorem d_Log_code_7 : decode b_Log_code 7 = .ok (.aload_n 0, 1) := by decide +kernel
theorem d_Log_code_8 : decode b_Log_code 8 = .ok (.getfield 15, 3) := by decide +kernel
theorem d_Log_code_11 : decode b_Log_code 11 = .ok (.imul, 1) := by decide +kernel
theorem d_Log_code_12 : decode b_Log_code 12 = .ok (.iadd, 1) := by decide +kernel
theorem d_Log_code_13 : decode b_Log_code 13 = .ok (.sipush 2048, 3) := by decide +kernel
theorem d_Log_code_16 : decode b_Log_code 16 = .ok (.aload_n 0, 1) := by decide +kernel
theorem d_Log_code_17 : decode b_Log_code 17 = .ok (.getfield 19, 3) := by decide +kernel
theorem d_Log_code_20 : decode b_Log_code 20 = .ok (.imul, 1) := by decide +kernel
theorem d_Log_code_21 : decode b_Log_code 21 = .ok (.iadd, 1) := by decide +kernel
theorem d_Log_code_22 : decode b_Log_code 22 = .ok (.aload_n 0, 1) := by decide +kernel
theorem d_Log_code_23 : decode b_Log_code 23 = .ok (.getfield 9, 3) := by decide +kernel
theorem d_Log_code_26 : decode b_Log_code 26 = .ok (.ifCond .eq 8, 3) := by decide +kernel
theorem d_Log_code_29 : decode b_Log_code 29 = .ok (.ldc 38, 2) := by decide +kernel
theorem d_Log_code_31 : decode b_Log_code 31 = .ok (.goto 4, 3) := by decide +kernel
theorem d_Log_code_34 : decode b_Log_code 34 = .ok (.iconst 0, 1) := by decide +kernel
theorem d_Log_code_35 : decode b_Log_code 35 = .ok (.iadd, 1) := by decide +kernel
theorem d_Log_code_36 : decode b_Log_code 36 = .ok (.ireturn, 1) := by decide +kernel
theorem d_ES_log_0 : decode b_ES_log 0 = .ok (.iload_n 1, 1) := by decide +kernel
theorem d_ES_log_1 : decode b_ES_log 1 = .ok (.invokestatic 167, 3) := by decide +kernel
theorem d_ES_log_4 : decode b_ES_log 4 = .ok (.ifCond .eq 15, 3) := by decide +kernel
theorem d_ES_log_7 : decode b_ES_log 7 = .ok (.aload_n 0, 1) := by decide +kernel
theorem d_ES_log_8 : decode b_ES_log 8 = .ok (.getfield 17, 3) := by decide +kernel
theorem d_ES_log_11 : decode b_ES_log 11 = .ok (.iload_n 1, 1) := by decide +kernel
theorem d_ES_log_12 : decode b_ES_log 12 = .ok (.aaload, 1) := by decide +kernel
theorem d_ES_log_13 : decode b_ES_log 13 = .ok (.invokevirtual 190, 3) := by decide +kernel
theorem d_ES_log_16 : decode b_ES_log 16 = .ok (.goto 4, 3) := by decide +kernel
theorem d_ES_log_19 : decode b_ES_log 19 = .ok (.iconst (-1), 1) := by decide +kernel
theorem d_ES_log_20 : decode b_ES_log 20 = .ok (.ireturn, 1) := by decide +kernel
theorem d_Storage_code_0 : decode b_Storage_code 0 = .ok (.aload_n 0, 1) := by decide +kernel
theorem d_Storage_code_1 : decode b_Storage_code 1 = .ok (.getfield 31, 3) := by decide +kernel
theorem d_Storage_code_4 : decode b_Storage_code 4 = .ok (.sipush 128, 3) := by decide +kernel
theorem d_Storage_code_7 : decode b_Storage_code 7 = .ok (.aload_n 0, 1) := by decide +kernel
theorem d_Storage_code_8 : decode b_Storage_code 8 = .ok (.getfield 15, 3) := by decide +kernel
theorem d_Storage_code_11 : decode b_Storage_code 11 = .ok (.imul, 1) := by decide +kernel
theorem d_Storage_code_12 : decode b_Storage_code 12 = .ok (.iadd, 1) := by decide +kernel
theorem d_Storage_code_13 : decode b_Storage_code 13 = .ok (.sipush 2048, 3) := by decide +kernel
theorem d_Storage_code_16 : decode b_Storage_code 16 = .ok (.aload_n 0, 1) := by decide +kernel
theorem d_Storage_code_17 : decode b_Storage_code 17 = .ok (.getfield 19, 3) := by decide +kernel
theorem d_Storage_code_20 : decode b_Storage_code 20 = .ok (.imul, 1) := by decide +kernel
theorem d_Storage_code_21 : decode b_Storage_code 21 = .ok (.iadd, 1) := by decide +kernel
theorem d_Storage_code_22 : decode b_Storage_code 22 = .ok (.aload_n 0, 1) := by decide +kernel
theorem d_Storage_code_23 : decode b_Storage_code 23 = .ok (.getfield 9, 3) := by decide +kernel
theorem d_Storage_code_26 : decode b_Storage_code 26 = .ok (.ifCond .eq 8, 3) := by decide +kernel
theorem d_Storage_code_29 : decode b_Storage_code 29 = .ok (.ldc 34, 2) := by decide +kernel
theorem d_Storage_code_31 : decode b_Storage_code 31 = .ok (.goto 4, 3) := by decide +kernel
theorem d_Storage_code_34 : decode b_Storage_code 34 = .ok (.iconst 0, 1) := by decide +kernel
theorem d_Storage_code_35 : decode b_Storage_code 35 = .ok (.iadd, 1) := by decide +kernel
theorem d_Storage_code_36 : decode b_Storage_code 36 = .ok (.ireturn, 1) := by decide +kernel
theorem d_ES_storage_0 : decode b_ES_storage 0 = .ok (.iload_n 1, 1) := by decide +kernel
theorem d_ES_storage_1 : decode b_ES_storage 1 = .ok (.invokestatic 164, 3) := by decide +kernel
theorem d_ES_storage_4 : decode b_ES_storage 4 = .ok (.ifCond .eq 15, 3) := by decide +kernel
theorem d_ES_storage_7 : decode b_ES_storage 7 = .ok (.aload_n 0, 1) := by decide +kernel
theorem d_ES_storage_8 : decode b_ES_storage 8 = .ok (.getfield 23, 3) := by decide +kernel
theorem d_ES_storage_11 : decode b_ES_storage 11 = .ok (.iload_n 1, 1) := by decide +kernel
theorem d_ES_storage_12 : decode b_ES_storage 12 = .ok (.aaload, 1) := by decide +kernel
theorem d_ES_storage_13 : decode b_ES_storage 13 = .ok (.invokevirtual 191, 3) := by decide +kernel
theorem d_ES_storage_16 : decode b_ES_storage 16 = .ok (.goto 4, 3) := by decide +kernel
theorem d_ES_storage_19 : decode b_ES_storage 19 = .ok (.iconst (-1), 1) := by decide +kernel
theorem d_ES_storage_20 : decode b_ES_storage 20 = .ok (.ireturn, 1) := by decide +kernel
theorem d_Master_code_0 : decode b_Master_code 0 = .ok (.aload_n 0, 1) := by decide +kernel
theorem d_Master_code_1 : decode b_Master_code 1 = .ok (.getfield 46, 3) := by decide +kernel
theorem d_Master_code_4 : decode b_Master_code 4 = .ok (.bipush 16, 2) := by decide +kernel
theorem d_Master_code_6 : decode b_Master_code 6 = .ok (.aload_n 0, 1) := by decide +kernel
theorem d_Master_code_7 : decode b_Master_code 7 = .ok (.getfield 49, 3) := by decide +kernel
theorem d_Master_code_10 : decode b_Master_code 10 = .ok (.imul, 1) := by decide +kernel
theorem d_Master_code_11 : decode b_Master_code 11 = .ok (.iadd, 1) := by decide +kernel
theorem d_Master_code_12 : decode b_Master_code 12 = .ok (.sipush 256, 3) := by decide +kernel
theorem d_Master_code_15 : decode b_Master_code 15 = .ok (.aload_n 0, 1) := by decide +kernel
theorem d_Master_code_16 : decode b_Master_code 16 = .ok (.getfield 37, 3) := by decide +kernel
theorem d_Master_code_19 : decode b_Master_code 19 = .ok (.imul, 1) := by decide +kernel
theorem d_Master_code_20 : decode b_Master_code 20 = .ok (.iadd, 1) := by decide +kernel
theorem d_Master_code_21 : decode b_Master_code 21 = .ok (.ireturn, 1) := by decide +kernel
theorem d_ES_master_0 : decode b_ES_master 0 = .ok (.aload_n 0, 1) := by decide +kernel
theorem d_ES_master_1 : decode b_ES_master 1 = .ok (.iload_n 1, 1) := by decide +kernel
theorem d_ES_master_2 : decode b_ES_master 2 = .ok (.invokevirtual 146, 3) := by decide +kernel
theorem d_ES_master_5 : decode b_ES_master 5 = .ok (.ifCond .eq 15, 3) := by decide +kernel
theorem d_ES_master_8 : decode b_ES_master 8 = .ok (.aload_n 0, 1) := by decide +kernel
theorem d_ES_master_9 : decode b_ES_master 9 = .ok (.getfield 35, 3) := by decide +kernel
theorem d_ES_master_12 : decode b_ES_master 12 = .ok (.iload_n 1, 1) := by decide +kernel
theorem d_ES_master_13 : decode b_ES_master 13 = .ok (.aaload, 1) := by decide +kernel
theorem d_ES_master_14 : decode b_ES_master 14 = .ok (.invokevirtual 192, 3) := by decide +kernel
theorem d_ES_master_17 : decode b_ES_master 17 = .ok (.goto 4, 3) := by decide +kernel
theorem d_ES_master_20 : decode b_ES_master 20 = .ok (.iconst (-1), 1) := by decide +kernel
theorem d_ES_master_21 : decode b_ES_master 21 = .ok (.ireturn, 1) := by decide +kernel
theorem d_ES_committed_0 : decode b_ES_committed 0 = .ok (.aload_n 0, 1) := by decide +kernel
theorem d_ES_committed_1 : decode b_ES_committed 1 = .ok (.iload_n 1, 1) := by decide +kernel
theorem d_ES_committed_2 : decode b_ES_committed 2 = .ok (.invokevirtual 146, 3) := by decide +kernel
theorem d_ES_committed_5 : decode b_ES_committed 5 = .ok (.ifCond .eq 15, 3) := by decide +kernel
theorem d_ES_committed_8 : decode b_ES_committed 8 = .ok (.aload_n 0, 1) := by decide +kernel
theorem d_ES_committed_9 : decode b_ES_committed 9 = .ok (.getfield 35, 3) := by decide +kernel
theorem d_ES_committed_12 : decode b_ES_committed 12 = .ok (.iload_n 1, 1) := by decide +kernel
theorem d_ES_committed_13 : decode b_ES_committed 13 = .ok (.aaload, 1) := by decide +kernel
theorem d_ES_committed_14 : decode b_ES_committed 14 = .ok (.getfield 193, 3) := by decide +kernel
theorem d_ES_committed_17 : decode b_ES_committed 17 = .ok (.goto 4, 3) := by decide +kernel
theorem d_ES_committed_20 : decode b_ES_committed 20 = .ok (.iconst (-1), 1) := by decide +kernel
theorem d_ES_committed_21 : decode b_ES_committed 21 = .ok (.ireturn, 1) := by decide +kernel
theorem d_Coordinator_code_0 : decode b_Coordinator_code 0 = .ok (.aload_n 0, 1) := by decide +kernel
theorem d_Coordinator_code_1 : decode b_Coordinator_code 1 = .ok (.getfield 15, 3) := by decide +kernel
theorem d_Coordinator_code_4 : decode b_Coordinator_code 4 = .ok (.aload_n 0, 1) := by decide +kernel
theorem d_Coordinator_code_5 : decode b_Coordinator_code 5 = .ok (.getfield 9, 3) := by decide +kernel
theorem d_Coordinator_code_8 : decode b_Coordinator_code 8 = .ok (.ifCond .eq 8, 3) := by decide +kernel
theorem d_Coordinator_code_11 : decode b_Coordinator_code 11 = .ok (.bipush 16, 2) := by decide +kernel
theorem d_Coordinator_code_13 : decode b_Coordinator_code 13 = .ok (.goto 4, 3) := by decide +kernel
theorem d_Coordinator_code_16 : decode b_Coordinator_code 16 = .ok (.iconst 0, 1) := by decide +kernel
theorem d_Coordinator_code_17 : decode b_Coordinator_code 17 = .ok (.iadd, 1) := by decide +kernel
theorem d_Coordinator_code_18 : decode b_Coordinator_code 18 = .ok (.ireturn, 1) := by decide +kernel
theorem d_ES_coordinator_0 : decode b_ES_coordinator 0 = .ok (.iload_n 1, 1) := by decide +kernel
theorem d_ES_coordinator_1 : decode b_ES_coordinator 1 = .ok (.invokestatic 196, 3) := by decide +kernel
theorem d_ES_coordinator_4 : decode b_ES_coordinator 4 = .ok (.ifCond .eq 15, 3) := by decide +kernel
theorem d_ES_coordinator_7 : decode b_ES_coordinator 7 = .ok (.aload_n 0, 1) := by decide +kernel
theorem d_ES_coordinator_8 : decode b_ES_coordinator 8 = .ok (.getfield 11, 3) := by decide +kernel
theorem d_ES_coordinator_11 : decode b_ES_coordinator 11 = .ok (.iload_n 1, 1) := by decide +kernel
theorem d_ES_coordinator_12 : decode b_ES_coordinator 12 = .ok (.aaload, 1) := by decide +kernel
theorem d_ES_coordinator_13 : decode b_ES_coordinator 13 = .ok (.invokevirtual 199, 3) := by decide +kernel
theorem d_ES_coordinator_16 : decode b_ES_coordinator 16 = .ok (.goto 4, 3) := by decide +kernel
theorem d_ES_coordinator_19 : decode b_ES_coordinator 19 = .ok (.iconst (-1), 1) := by decide +kernel
theorem d_ES_coordinator_20 : decode b_ES_coordinator 20 = .ok (.ireturn, 1) := by decide +kernel
