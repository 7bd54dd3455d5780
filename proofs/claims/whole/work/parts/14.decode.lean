theorem d_Coordinator_init_0 : decode b_Coordinator_init 0 = .ok (.aload_n 0, 1) := by decide +kernel
theorem d_Coordinator_init_1 : decode b_Coordinator_init 1 = .ok (.invokespecial 3, 3) := by decide +kernel
theorem d_Coordinator_init_4 : decode b_Coordinator_init 4 = .ok (.aload_n 0, 1) := by decide +kernel
theorem d_Coordinator_init_5 : decode b_Coordinator_init 5 = .ok (.iconst 1, 1) := by decide +kernel
theorem d_Coordinator_init_6 : decode b_Coordinator_init 6 = .ok (.putfield 9, 3) := by decide +kernel
theorem d_Coordinator_init_9 : decode b_Coordinator_init 9 = .ok (.aload_n 0, 1) := by decide +kernel
theorem d_Coordinator_init_10 : decode b_Coordinator_init 10 = .ok (.iconst 1, 1) := by decide +kernel
theorem d_Coordinator_init_11 : decode b_Coordinator_init 11 = .ok (.putfield 15, 3) := by decide +kernel
theorem d_Coordinator_init_14 : decode b_Coordinator_init 14 = .ok (.return_, 1) := by decide +kernel
theorem d_Log_init_0 : decode b_Log_init 0 = .ok (.aload_n 0, 1) := by decide +kernel
theorem d_Log_init_1 : decode b_Log_init 1 = .ok (.invokespecial 3, 3) := by decide +kernel
theorem d_Log_init_4 : decode b_Log_init 4 = .ok (.aload_n 0, 1) := by decide +kernel
theorem d_Log_init_5 : decode b_Log_init 5 = .ok (.iconst 1, 1) := by decide +kernel
theorem d_Log_init_6 : decode b_Log_init 6 = .ok (.putfield 9, 3) := by decide +kernel
theorem d_Log_init_9 : decode b_Log_init 9 = .ok (.aload_n 0, 1) := by decide +kernel
theorem d_Log_init_10 : decode b_Log_init 10 = .ok (.iconst 1, 1) := by decide +kernel
theorem d_Log_init_11 : decode b_Log_init 11 = .ok (.putfield 15, 3) := by decide +kernel
theorem d_Log_init_14 : decode b_Log_init 14 = .ok (.aload_n 0, 1) := by decide +kernel
theorem d_Log_init_15 : decode b_Log_init 15 = .ok (.bipush 10, 2) := by decide +kernel
theorem d_Log_init_17 : decode b_Log_init 17 = .ok (.putfield 19, 3) := by decide +kernel
theorem d_Log_init_20 : decode b_Log_init 20 = .ok (.aload_n 0, 1) := by decide +kernel
theorem d_Log_init_21 : decode b_Log_init 21 = .ok (.bipush 10, 2) := by decide +kernel
theorem d_Log_init_23 : decode b_Log_init 23 = .ok (.newarray .int, 2) := by decide +kernel
theorem d_Log_init_25 : decode b_Log_init 25 = .ok (.putfield 22, 3) := by decide +kernel
theorem d_Log_init_28 : decode b_Log_init 28 = .ok (.aload_n 0, 1) := by decide +kernel
theorem d_Log_init_29 : decode b_Log_init 29 = .ok (.bipush 100, 2) := by decide +kernel
theorem d_Log_init_31 : decode b_Log_init 31 = .ok (.anewarray 26, 3) := by decide +kernel
theorem d_Log_init_34 : decode b_Log_init 34 = .ok (.putfield 28, 3) := by decide +kernel
theorem d_Log_init_37 : decode b_Log_init 37 = .ok (.aload_n 0, 1) := by decide +kernel
theorem d_Log_init_38 : decode b_Log_init 38 = .ok (.iload_n 1, 1) := by decide +kernel
theorem d_Log_init_39 : decode b_Log_init 39 = .ok (.putfield 32, 3) := by decide +kernel
theorem d_Log_init_42 : decode b_Log_init 42 = .ok (.return_, 1) := by decide +kernel
theorem d_Storage_init_0 : decode b_Storage_init 0 = .ok (.aload_n 0, 1) := by decide +kernel
theorem d_Storage_init_1 : decode b_Storage_init 1 = .ok (.invokespecial 3, 3) := by decide +kernel
theorem d_Storage_init_4 : decode b_Storage_init 4 = .ok (.aload_n 0, 1) := by decide +kernel
theorem d_Storage_init_5 : decode b_Storage_init 5 = .ok (.iconst 1, 1) := by decide +kernel
theorem d_Storage_init_6 : decode b_Storage_init 6 = .ok (.putfield 9, 3) := by decide +kernel
theorem d_Storage_init_9 : decode b_Storage_init 9 = .ok (.aload_n 0, 1) := by decide +kernel
theorem d_Storage_init_10 : decode b_Storage_init 10 = .ok (.iconst 1, 1) := by decide +kernel
theorem d_Storage_init_11 : decode b_Storage_init 11 = .ok (.putfield 15, 3) := by decide +kernel
theorem d_Storage_init_14 : decode b_Storage_init 14 = .ok (.aload_n 0, 1) := by decide +kernel
theorem d_Storage_init_15 : decode b_Storage_init 15 = .ok (.bipush 10, 2) := by decide +kernel
theorem d_Storage_init_17 : decode b_Storage_init 17 = .ok (.putfield 19, 3) := by decide +kernel
theorem d_Storage_init_20 : decode b_Storage_init 20 = .ok (.aload_n 0, 1) := by decide +kernel
theorem d_Storage_init_21 : decode b_Storage_init 21 = .ok (.bipush 100, 2) := by decide +kernel
theorem d_Storage_init_23 : decode b_Storage_init 23 = .ok (.anewarray 22, 3) := by decide +kernel
theorem d_Storage_init_26 : decode b_Storage_init 26 = .ok (.putfield 24, 3) := by decide +kernel
theorem d_Storage_init_29 : decode b_Storage_init 29 = .ok (.aload_n 0, 1) := by decide +kernel
theorem d_Storage_init_30 : decode b_Storage_init 30 = .ok (.bipush 15, 2) := by decide +kernel
theorem d_Storage_init_32 : decode b_Storage_init 32 = .ok (.iload_n 1, 1) := by decide +kernel
theorem d_Storage_init_33 : decode b_Storage_init 33 = .ok (.iconst 4, 1) := by decide +kernel
theorem d_Storage_init_34 : decode b_Storage_init 34 = .ok (.imul, 1) := by decide +kernel
theorem d_Storage_init_35 : decode b_Storage_init 35 = .ok (.ishl, 1) := by decide +kernel
theorem d_Storage_init_36 : decode b_Storage_init 36 = .ok (.putfield 28, 3) := by decide +kernel
theorem d_Storage_init_39 : decode b_Storage_init 39 = .ok (.return_, 1) := by decide +kernel
theorem d_Writes_init_0 : decode b_Writes_init 0 = .ok (.aload_n 0, 1) := by decide +kernel
theorem d_Writes_init_1 : decode b_Writes_init 1 = .ok (.invokespecial 3, 3) := by decide +kernel
theorem d_Writes_init_4 : decode b_Writes_init 4 = .ok (.aload_n 0, 1) := by decide +kernel
theorem d_Writes_init_5 : decode b_Writes_init 5 = .ok (.bipush 8, 2) := by decide +kernel
theorem d_Writes_init_7 : decode b_Writes_init 7 = .ok (.newarray .int, 2) := by decide +kernel
theorem d_Writes_init_9 : decode b_Writes_init 9 = .ok (.putfield 9, 3) := by decide +kernel
theorem d_Writes_init_12 : decode b_Writes_init 12 = .ok (.return_, 1) := by decide +kernel
theorem d_Client_init_0 : decode b_Client_init 0 = .ok (.aload_n 0, 1) := by decide +kernel
theorem d_Client_init_1 : decode b_Client_init 1 = .ok (.invokespecial 3, 3) := by decide +kernel
theorem d_Client_init_4 : decode b_Client_init 4 = .ok (.aload_n 0, 1) := by decide +kernel
theorem d_Client_init_5 : decode b_Client_init 5 = .ok (.iconst 1, 1) := by decide +kernel
theorem d_Client_init_6 : decode b_Client_init 6 = .ok (.putfield 9, 3) := by decide +kernel
theorem d_Client_init_9 : decode b_Client_init 9 = .ok (.aload_n 0, 1) := by decide +kernel
theorem d_Client_init_10 : decode b_Client_init 10 = .ok (.iconst 0, 1) := by decide +kernel
theorem d_Client_init_11 : decode b_Client_init 11 = .ok (.putfield 15, 3) := by decide +kernel
theorem d_Client_init_14 : decode b_Client_init 14 = .ok (.aload_n 0, 1) := by decide +kernel
theorem d_Client_init_15 : decode b_Client_init 15 = .ok (.iconst 1, 1) := by decide +kernel
theorem d_Client_init_16 : decode b_Client_init 16 = .ok (.putfield 18, 3) := by decide +kernel
theorem d_Client_init_19 : decode b_Client_init 19 = .ok (.aload_n 0, 1) := by decide +kernel
theorem d_Client_init_20 : decode b_Client_init 20 = .ok (.new 21, 3) := by decide +kernel
theorem d_Client_init_23 : decode b_Client_init 23 = .ok (.dup, 1) := by decide +kernel
theorem d_Client_init_24 : decode b_Client_init 24 = .ok (.invokespecial 23, 3) := by decide +kernel
theorem d_Client_init_27 : decode b_Client_init 27 = .ok (.putfield 24, 3) := by decide +kernel
theorem d_Client_init_30 : decode b_Client_init 30 = .ok (.aload_n 0, 1) := by decide +kernel
theorem d_Client_init_31 : decode b_Client_init 31 = .ok (.iload_n 1, 1) := by decide +kernel
theorem d_Client_init_32 : decode b_Client_init 32 = .ok (.putfield 28, 3) := by decide +kernel
theorem d_Client_init_35 : decode b_Client_init 35 = .ok (.return_, 1) := by decide +kernel
theorem d_Master_init_0 : decode b_Master_init 0 = .ok (.aload_n 0, 1) := by decide +kernel
theorem d_Master_init_1 : decode b_Master_init 1 = .ok (.invokespecial 3, 3) := by decide +kernel
theorem d_Master_init_4 : decode b_Master_init 4 = .ok (.aload_n 0, 1) := by decide +kernel
theorem d_Master_init_5 : decode b_Master_init 5 = .ok (.bipush 8, 2) := by decide +kernel
theorem d_Master_init_7 : decode b_Master_init 7 = .ok (.newarray .int, 2) := by decide +kernel
theorem d_Master_init_9 : decode b_Master_init 9 = .ok (.putfield 9, 3) := by decide +kernel
theorem d_Master_init_12 : decode b_Master_init 12 = .ok (.aload_n 0, 1) := by decide +kernel
theorem d_Master_init_13 : decode b_Master_init 13 = .ok (.bipush 8, 2) := by decide +kernel
theorem d_Master_init_15 : decode b_Master_init 15 = .ok (.anewarray 15, 3) := by decide +kernel
theorem d_Master_init_18 : decode b_Master_init 18 = .ok (.putfield 17, 3) := by decide +kernel
theorem d_Master_init_21 : decode b_Master_init 21 = .ok (.aload_n 0, 1) := by decide +kernel
theorem d_Master_init_22 : decode b_Master_init 22 = .ok (.bipush 8, 2) := by decide +kernel
theorem d_Master_init_24 : decode b_Master_init 24 = .ok (.anewarray 21, 3) := by decide +kernel
theorem d_Master_init_27 : decode b_Master_init 27 = .ok (.putfield 23, 3) := by decide +kernel
theorem d_Master_init_30 : decode b_Master_init 30 = .ok (.aload_n 0, 1) := by decide +kernel
theorem d_Master_init_31 : decode b_Master_init 31 = .ok (.iload_n 1, 1) := by decide +kernel
theorem d_Master_init_32 : decode b_Master_init 32 = .ok (.putfield 27, 3) := by decide +kernel
theorem d_Master_init_35 : decode b_Master_init 35 = .ok (.aload_n 0, 1) := by decide +kernel
theorem d_Master_init_36 : decode b_Master_init 36 = .ok (.iload_n 2, 1) := by decide +kernel
theorem d_Master_init_37 : decode b_Master_init 37 = .ok (.putfield 31, 3) := by decide +kernel
theorem d_Master_init_40 : decode b_Master_init 40 = .ok (.aload_n 0, 1) := by decide +kernel
theorem d_Master_init_41 : decode b_Master_init 41 = .ok (.iload_n 3, 1) := by decide +kernel
theorem d_Master_init_42 : decode b_Master_init 42 = .ok (.putfield 34, 3) := by decide +kernel
theorem d_Master_init_45 : decode b_Master_init 45 = .ok (.aload_n 0, 1) := by decide +kernel
theorem d_Master_init_46 : decode b_Master_init 46 = .ok (.iload_n 3, 1) := by decide +kernel
theorem d_Master_init_47 : decode b_Master_init 47 = .ok (.putfield 37, 3) := by decide +kernel
theorem d_Master_init_50 : decode b_Master_init 50 = .ok (.aload_n 0, 1) := by decide +kernel
theorem d_Master_init_51 : decode b_Master_init 51 = .ok (.iload_n 3, 1) := by decide +kernel
theorem d_Master_init_52 : decode b_Master_init 52 = .ok (.putfield 40, 3) := by decide +kernel
theorem d_Master_init_55 : decode b_Master_init 55 = .ok (.aload_n 0, 1) := by decide +kernel
theorem d_Master_init_56 : decode b_Master_init 56 = .ok (.iload_n 3, 1) := by decide +kernel
theorem d_Master_init_57 : decode b_Master_init 57 = .ok (.putfield 43, 3) := by decide +kernel
theorem d_Master_init_60 : decode b_Master_init 60 = .ok (.iconst 0, 1) := by decide +kernel
theorem d_Master_init_61 : decode b_Master_init 61 = .ok (.istore 4, 2) := by decide +kernel
theorem d_Master_init_63 : decode b_Master_init 63 = .ok (.iload 4, 2) := by decide +kernel
theorem d_Master_init_65 : decode b_Master_init 65 = .ok (.bipush 8, 2) := by decide +kernel
theorem d_Master_init_67 : decode b_Master_init 67 = .ok (.if_icmp .ge 17, 3) := by decide +kernel
theorem d_Master_init_70 : decode b_Master_init 70 = .ok (.aload_n 0, 1) := by decide +kernel
theorem d_Master_init_71 : decode b_Master_init 71 = .ok (.getfield 9, 3) := by decide +kernel
theorem d_Master_init_74 : decode b_Master_init 74 = .ok (.iload 4, 2) := by decide +kernel
theorem d_Master_init_76 : decode b_Master_init 76 = .ok (.iload_n 3, 1) := by decide +kernel
theorem d_Master_init_77 : decode b_Master_init 77 = .ok (.iastore, 1) := by decide +kernel
theorem d_Master_init_78 : decode b_Master_init 78 = .ok (.iinc 4 1, 3) := by decide +kernel
theorem d_Master_init_81 : decode b_Master_init 81 = .ok (.goto (-18), 3) := by decide +kernel
theorem d_Master_init_84 : decode b_Master_init 84 = .ok (.return_, 1) := by decide +kernel
