theorem d_Log_takeRecord_0 : decode b_Log_takeRecord 0 = .ok (.aload_n 1, 1) := by decide +kernel
theorem d_Log_takeRecord_1 : decode b_Log_takeRecord 1 = .ok (.getfield 65, 3) := by decide +kernel
theorem d_Log_takeRecord_4 : decode b_Log_takeRecord 4 = .ok (.aload_n 0, 1) := by decide +kernel
theorem d_Log_takeRecord_5 : decode b_Log_takeRecord 5 = .ok (.getfield 19, 3) := by decide +kernel
theorem d_Log_takeRecord_8 : decode b_Log_takeRecord 8 = .ok (.if_icmp .ne 40, 3) := by decide +kernel
theorem d_Log_takeRecord_11 : decode b_Log_takeRecord 11 = .ok (.aload_n 0, 1) := by decide +kernel
theorem d_Log_takeRecord_12 : decode b_Log_takeRecord 12 = .ok (.getfield 35, 3) := by decide +kernel
theorem d_Log_takeRecord_15 : decode b_Log_takeRecord 15 = .ok (.bipush 100, 2) := by decide +kernel
theorem d_Log_takeRecord_17 : decode b_Log_takeRecord 17 = .ok (.if_icmp .ge 31, 3) := by decide +kernel
theorem d_Log_takeRecord_20 : decode b_Log_takeRecord 20 = .ok (.aload_n 0, 1) := by decide +kernel
theorem d_Log_takeRecord_21 : decode b_Log_takeRecord 21 = .ok (.getfield 28, 3) := by decide +kernel
theorem d_Log_takeRecord_24 : decode b_Log_takeRecord 24 = .ok (.aload_n 0, 1) := by decide +kernel
theorem d_Log_takeRecord_25 : decode b_Log_takeRecord 25 = .ok (.getfield 35, 3) := by decide +kernel
theorem d_Log_takeRecord_28 : decode b_Log_takeRecord 28 = .ok (.aload_n 1, 1) := by decide +kernel
theorem d_Log_takeRecord_29 : decode b_Log_takeRecord 29 = .ok (.aastore, 1) := by decide +kernel
theorem d_Log_takeRecord_30 : decode b_Log_takeRecord 30 = .ok (.aload_n 0, 1) := by decide +kernel
theorem d_Log_takeRecord_31 : decode b_Log_takeRecord 31 = .ok (.dup, 1) := by decide +kernel
theorem d_Log_takeRecord_32 : decode b_Log_takeRecord 32 = .ok (.getfield 35, 3) := by decide +kernel
theorem d_Log_takeRecord_35 : decode b_Log_takeRecord 35 = .ok (.iconst 1, 1) := by decide +kernel
theorem d_Log_takeRecord_36 : decode b_Log_takeRecord 36 = .ok (.iadd, 1) := by decide +kernel
theorem d_Log_takeRecord_37 : decode b_Log_takeRecord 37 = .ok (.putfield 35, 3) := by decide +kernel
theorem d_Log_takeRecord_40 : decode b_Log_takeRecord 40 = .ok (.aload_n 0, 1) := by decide +kernel
theorem d_Log_takeRecord_41 : decode b_Log_takeRecord 41 = .ok (.aload_n 1, 1) := by decide +kernel
theorem d_Log_takeRecord_42 : decode b_Log_takeRecord 42 = .ok (.getfield 68, 3) := by decide +kernel
theorem d_Log_takeRecord_45 : decode b_Log_takeRecord 45 = .ok (.putfield 19, 3) := by decide +kernel
theorem d_Log_takeRecord_48 : decode b_Log_takeRecord 48 = .ok (.aload_n 1, 1) := by decide +kernel
theorem d_Log_takeRecord_49 : decode b_Log_takeRecord 49 = .ok (.getfield 68, 3) := by decide +kernel
theorem d_Log_takeRecord_52 : decode b_Log_takeRecord 52 = .ok (.aload_n 0, 1) := by decide +kernel
theorem d_Log_takeRecord_53 : decode b_Log_takeRecord 53 = .ok (.getfield 19, 3) := by decide +kernel
theorem d_Log_takeRecord_56 : decode b_Log_takeRecord 56 = .ok (.if_icmp .gt 7, 3) := by decide +kernel
theorem d_Log_takeRecord_59 : decode b_Log_takeRecord 59 = .ok (.iconst 1, 1) := by decide +kernel
theorem d_Log_takeRecord_60 : decode b_Log_takeRecord 60 = .ok (.goto 4, 3) := by decide +kernel
theorem d_Log_takeRecord_63 : decode b_Log_takeRecord 63 = .ok (.iconst 0, 1) := by decide +kernel
theorem d_Log_takeRecord_64 : decode b_Log_takeRecord 64 = .ok (.ireturn, 1) := by decide +kernel
theorem d_Log_receive_0 : decode b_Log_receive 0 = .ok (.aload_n 0, 1) := by decide +kernel
theorem d_Log_receive_1 : decode b_Log_receive 1 = .ok (.getfield 9, 3) := by decide +kernel
theorem d_Log_receive_4 : decode b_Log_receive 4 = .ok (.ifCond .eq 14, 3) := by decide +kernel
theorem d_Log_receive_7 : decode b_Log_receive 7 = .ok (.aload_n 1, 1) := by decide +kernel
theorem d_Log_receive_8 : decode b_Log_receive 8 = .ok (.getfield 39, 3) := by decide +kernel
theorem d_Log_receive_11 : decode b_Log_receive 11 = .ok (.aload_n 0, 1) := by decide +kernel
theorem d_Log_receive_12 : decode b_Log_receive 12 = .ok (.getfield 15, 3) := by decide +kernel
theorem d_Log_receive_15 : decode b_Log_receive 15 = .ok (.if_icmp .eq 4, 3) := by decide +kernel
theorem d_Log_receive_18 : decode b_Log_receive 18 = .ok (.return_, 1) := by decide +kernel
theorem d_Log_receive_19 : decode b_Log_receive 19 = .ok (.aload_n 1, 1) := by decide +kernel
theorem d_Log_receive_20 : decode b_Log_receive 20 = .ok (.getfield 42, 3) := by decide +kernel
theorem d_Log_receive_23 : decode b_Log_receive 23 = .ok (.iconst 2, 1) := by decide +kernel
theorem d_Log_receive_24 : decode b_Log_receive 24 = .ok (.if_icmp .ne 26, 3) := by decide +kernel
theorem d_Log_receive_27 : decode b_Log_receive 27 = .ok (.aload_n 2, 1) := by decide +kernel
theorem d_Log_receive_28 : decode b_Log_receive 28 = .ok (.iconst 3, 1) := by decide +kernel
theorem d_Log_receive_29 : decode b_Log_receive 29 = .ok (.aload_n 0, 1) := by decide +kernel
theorem d_Log_receive_30 : decode b_Log_receive 30 = .ok (.getfield 32, 3) := by decide +kernel
theorem d_Log_receive_33 : decode b_Log_receive 33 = .ok (.aload_n 0, 1) := by decide +kernel
theorem d_Log_receive_34 : decode b_Log_receive 34 = .ok (.getfield 15, 3) := by decide +kernel
theorem d_Log_receive_37 : decode b_Log_receive 37 = .ok (.invokevirtual 45, 3) := by decide +kernel
theorem d_Log_receive_40 : decode b_Log_receive 40 = .ok (.aload_n 1, 1) := by decide +kernel
theorem d_Log_receive_41 : decode b_Log_receive 41 = .ok (.getfield 51, 3) := by decide +kernel
theorem d_Log_receive_44 : decode b_Log_receive 44 = .ok (.putfield 51, 3) := by decide +kernel
theorem d_Log_receive_47 : decode b_Log_receive 47 = .ok (.goto 35, 3) := by decide +kernel
theorem d_Log_receive_50 : decode b_Log_receive 50 = .ok (.aload_n 0, 1) := by decide +kernel
theorem d_Log_receive_51 : decode b_Log_receive 51 = .ok (.aload_n 1, 1) := by decide +kernel
theorem d_Log_receive_52 : decode b_Log_receive 52 = .ok (.getfield 54, 3) := by decide +kernel
theorem d_Log_receive_55 : decode b_Log_receive 55 = .ok (.invokevirtual 58, 3) := by decide +kernel
theorem d_Log_receive_58 : decode b_Log_receive 58 = .ok (.ifCond .eq 24, 3) := by decide +kernel
theorem d_Log_receive_61 : decode b_Log_receive 61 = .ok (.aload_n 2, 1) := by decide +kernel
theorem d_Log_receive_62 : decode b_Log_receive 62 = .ok (.bipush 7, 2) := by decide +kernel
theorem d_Log_receive_64 : decode b_Log_receive 64 = .ok (.aload_n 0, 1) := by decide +kernel
theorem d_Log_receive_65 : decode b_Log_receive 65 = .ok (.getfield 32, 3) := by decide +kernel
theorem d_Log_receive_68 : decode b_Log_receive 68 = .ok (.aload_n 0, 1) := by decide +kernel
theorem d_Log_receive_69 : decode b_Log_receive 69 = .ok (.getfield 15, 3) := by decide +kernel
theorem d_Log_receive_72 : decode b_Log_receive 72 = .ok (.invokevirtual 45, 3) := by decide +kernel
theorem d_Log_receive_75 : decode b_Log_receive 75 = .ok (.aload_n 1, 1) := by decide +kernel
theorem d_Log_receive_76 : decode b_Log_receive 76 = .ok (.getfield 62, 3) := by decide +kernel
theorem d_Log_receive_79 : decode b_Log_receive 79 = .ok (.putfield 62, 3) := by decide +kernel
theorem d_Log_receive_82 : decode b_Log_receive 82 = .ok (.return_, 1) := by decide +kernel
theorem d_Client_receive_0 : decode b_Client_receive 0 = .ok (.aload_n 1, 1) := by decide +kernel
theorem d_Client_receive_1 : decode b_Client_receive 1 = .ok (.getfield 50, 3) := by decide +kernel
theorem d_Client_receive_4 : decode b_Client_receive 4 = .ok (.aload_n 0, 1) := by decide +kernel
theorem d_Client_receive_5 : decode b_Client_receive 5 = .ok (.getfield 38, 3) := by decide +kernel
theorem d_Client_receive_8 : decode b_Client_receive 8 = .ok (.if_icmp .eq 4, 3) := by decide +kernel
theorem d_Client_receive_11 : decode b_Client_receive 11 = .ok (.return_, 1) := by decide +kernel
theorem d_Client_receive_12 : decode b_Client_receive 12 = .ok (.aload_n 1, 1) := by decide +kernel
theorem d_Client_receive_13 : decode b_Client_receive 13 = .ok (.getfield 65, 3) := by decide +kernel
theorem d_Client_receive_16 : decode b_Client_receive 16 = .ok (.iconst 4, 1) := by decide +kernel
theorem d_Client_receive_17 : decode b_Client_receive 17 = .ok (.if_icmp .ne 27, 3) := by decide +kernel
theorem d_Client_receive_20 : decode b_Client_receive 20 = .ok (.aload_n 0, 1) := by decide +kernel
theorem d_Client_receive_21 : decode b_Client_receive 21 = .ok (.getfield 15, 3) := by decide +kernel
theorem d_Client_receive_24 : decode b_Client_receive 24 = .ok (.iconst 1, 1) := by decide +kernel
theorem d_Client_receive_25 : decode b_Client_receive 25 = .ok (.if_icmp .ne 19, 3) := by decide +kernel
theorem d_Client_receive_28 : decode b_Client_receive 28 = .ok (.aload_n 0, 1) := by decide +kernel
theorem d_Client_receive_29 : decode b_Client_receive 29 = .ok (.iconst 2, 1) := by decide +kernel
theorem d_Client_receive_30 : decode b_Client_receive 30 = .ok (.putfield 15, 3) := by decide +kernel
theorem d_Client_receive_33 : decode b_Client_receive 33 = .ok (.aload_n 0, 1) := by decide +kernel
theorem d_Client_receive_34 : decode b_Client_receive 34 = .ok (.aload_n 1, 1) := by decide +kernel
theorem d_Client_receive_35 : decode b_Client_receive 35 = .ok (.getfield 60, 3) := by decide +kernel
theorem d_Client_receive_38 : decode b_Client_receive 38 = .ok (.putfield 31, 3) := by decide +kernel
theorem d_Client_receive_41 : decode b_Client_receive 41 = .ok (.goto 36, 3) := by decide +kernel
theorem d_Client_receive_44 : decode b_Client_receive 44 = .ok (.aload_n 1, 1) := by decide +kernel
theorem d_Client_receive_45 : decode b_Client_receive 45 = .ok (.getfield 65, 3) := by decide +kernel
theorem d_Client_receive_48 : decode b_Client_receive 48 = .ok (.bipush 8, 2) := by decide +kernel
theorem d_Client_receive_50 : decode b_Client_receive 50 = .ok (.if_icmp .ne 27, 3) := by decide +kernel
theorem d_Client_receive_53 : decode b_Client_receive 53 = .ok (.aload_n 0, 1) := by decide +kernel
theorem d_Client_receive_54 : decode b_Client_receive 54 = .ok (.getfield 15, 3) := by decide +kernel
theorem d_Client_receive_57 : decode b_Client_receive 57 = .ok (.iconst 3, 1) := by decide +kernel
theorem d_Client_receive_58 : decode b_Client_receive 58 = .ok (.if_icmp .ne 19, 3) := by decide +kernel
theorem d_Client_receive_61 : decode b_Client_receive 61 = .ok (.aload_n 0, 1) := by decide +kernel
theorem d_Client_receive_62 : decode b_Client_receive 62 = .ok (.aload_n 1, 1) := by decide +kernel
theorem d_Client_receive_63 : decode b_Client_receive 63 = .ok (.getfield 68, 3) := by decide +kernel
theorem d_Client_receive_66 : decode b_Client_receive 66 = .ok (.putfield 15, 3) := by decide +kernel
theorem d_Client_receive_69 : decode b_Client_receive 69 = .ok (.aload_n 0, 1) := by decide +kernel
theorem d_Client_receive_70 : decode b_Client_receive 70 = .ok (.aload_n 1, 1) := by decide +kernel
theorem d_Client_receive_71 : decode b_Client_receive 71 = .ok (.getfield 60, 3) := by decide +kernel
theorem d_Client_receive_74 : decode b_Client_receive 74 = .ok (.putfield 35, 3) := by decide +kernel
theorem d_Client_receive_77 : decode b_Client_receive 77 = .ok (.return_, 1) := by decide +kernel
theorem d_ES_isMaster_0 : decode b_ES_isMaster 0 = .ok (.iload_n 1, 1) := by decide +kernel
theorem d_ES_isMaster_1 : decode b_ES_isMaster 1 = .ok (.iconst 1, 1) := by decide +kernel
theorem d_ES_isMaster_2 : decode b_ES_isMaster 2 = .ok (.if_icmp .lt 22, 3) := by decide +kernel
theorem d_ES_isMaster_5 : decode b_ES_isMaster 5 = .ok (.iload_n 1, 1) := by decide +kernel
theorem d_ES_isMaster_6 : decode b_ES_isMaster 6 = .ok (.bipush 9, 2) := by decide +kernel
theorem d_ES_isMaster_8 : decode b_ES_isMaster 8 = .ok (.if_icmp .gt 16, 3) := by decide +kernel
theorem d_ES_isMaster_11 : decode b_ES_isMaster 11 = .ok (.aload_n 0, 1) := by decide +kernel
theorem d_ES_isMaster_12 : decode b_ES_isMaster 12 = .ok (.getfield 35, 3) := by decide +kernel
theorem d_ES_isMaster_15 : decode b_ES_isMaster 15 = .ok (.iload_n 1, 1) := by decide +kernel
theorem d_ES_isMaster_16 : decode b_ES_isMaster 16 = .ok (.aaload, 1) := by decide +kernel
theorem d_ES_isMaster_17 : decode b_ES_isMaster 17 = .ok (.ifnull 7, 3) := by decide +kernel
theorem d_ES_isMaster_20 : decode b_ES_isMaster 20 = .ok (.iconst 1, 1) := by decide +kernel
theorem d_ES_isMaster_21 : decode b_ES_isMaster 21 = .ok (.goto 4, 3) := by decide +kernel
theorem d_ES_isMaster_24 : decode b_ES_isMaster 24 = .ok (.iconst 0, 1) := by decide +kernel
theorem d_ES_isMaster_25 : decode b_ES_isMaster 25 = .ok (.ireturn, 1) := by decide +kernel
theorem d_Question_init_0 : decode b_Question_init 0 = .ok (.aload_n 0, 1) := by decide +kernel
theorem d_Question_init_1 : decode b_Question_init 1 = .ok (.invokespecial 1, 3) := by decide +kernel
theorem d_Question_init_4 : decode b_Question_init 4 = .ok (.aload_n 0, 1) := by decide +kernel
theorem d_Question_init_5 : decode b_Question_init 5 = .ok (.iload_n 1, 1) := by decide +kernel
theorem d_Question_init_6 : decode b_Question_init 6 = .ok (.putfield 7, 3) := by decide +kernel
theorem d_Question_init_9 : decode b_Question_init 9 = .ok (.aload_n 0, 1) := by decide +kernel
theorem d_Question_init_10 : decode b_Question_init 10 = .ok (.iload_n 2, 1) := by decide +kernel
theorem d_Question_init_11 : decode b_Question_init 11 = .ok (.putfield 13, 3) := by decide +kernel
theorem d_Question_init_14 : decode b_Question_init 14 = .ok (.aload_n 0, 1) := by decide +kernel
theorem d_Question_init_15 : decode b_Question_init 15 = .ok (.iload_n 3, 1) := by decide +kernel
theorem d_Question_init_16 : decode b_Question_init 16 = .ok (.putfield 16, 3) := by decide +kernel
theorem d_Question_init_19 : decode b_Question_init 19 = .ok (.return_, 1) := by decide +kernel
theorem d_Master_openQuestion_0 : decode b_Master_openQuestion 0 = .ok (.aload_n 0, 1) := by decide +kernel
theorem d_Master_openQuestion_1 : decode b_Master_openQuestion 1 = .ok (.getfield 46, 3) := by decide +kernel
theorem d_Master_openQuestion_4 : decode b_Master_openQuestion 4 = .ok (.bipush 8, 2) := by decide +kernel
theorem d_Master_openQuestion_6 : decode b_Master_openQuestion 6 = .ok (.if_icmp .lt 4, 3) := by decide +kernel
theorem d_Master_openQuestion_9 : decode b_Master_openQuestion 9 = .ok (.return_, 1) := by decide +kernel
theorem d_Master_openQuestion_10 : decode b_Master_openQuestion 10 = .ok (.aload_n 0, 1) := by decide +kernel
theorem d_Master_openQuestion_11 : decode b_Master_openQuestion 11 = .ok (.dup, 1) := by decide +kernel
theorem d_Master_openQuestion_12 : decode b_Master_openQuestion 12 = .ok (.getfield 79, 3) := by decide +kernel
theorem d_Master_openQuestion_15 : decode b_Master_openQuestion 15 = .ok (.iconst 1, 1) := by decide +kernel
theorem d_Master_openQuestion_16 : decode b_Master_openQuestion 16 = .ok (.iadd, 1) := by decide +kernel
theorem d_Master_openQuestion_17 : decode b_Master_openQuestion 17 = .ok (.putfield 79, 3) := by decide +kernel
theorem d_Master_openQuestion_20 : decode b_Master_openQuestion 20 = .ok (.aload_n 0, 1) := by decide +kernel
theorem d_Master_openQuestion_21 : decode b_Master_openQuestion 21 = .ok (.getfield 17, 3) := by decide +kernel
theorem d_Master_openQuestion_24 : decode b_Master_openQuestion 24 = .ok (.aload_n 0, 1) := by decide +kernel
theorem d_Master_openQuestion_25 : decode b_Master_openQuestion 25 = .ok (.getfield 46, 3) := by decide +kernel
theorem d_Master_openQuestion_28 : decode b_Master_openQuestion 28 = .ok (.new 15, 3) := by decide +kernel
theorem d_Master_openQuestion_31 : decode b_Master_openQuestion 31 = .ok (.dup, 1) := by decide +kernel
theorem d_Master_openQuestion_32 : decode b_Master_openQuestion 32 = .ok (.aload_n 0, 1) := by decide +kernel
theorem d_Master_openQuestion_33 : decode b_Master_openQuestion 33 = .ok (.getfield 79, 3) := by decide +kernel
theorem d_Master_openQuestion_36 : decode b_Master_openQuestion 36 = .ok (.aload_n 1, 1) := by decide +kernel
theorem d_Master_openQuestion_37 : decode b_Master_openQuestion 37 = .ok (.getfield 82, 3) := by decide +kernel
theorem d_Master_openQuestion_40 : decode b_Master_openQuestion 40 = .ok (.aload_n 1, 1) := by decide +kernel
theorem d_Master_openQuestion_41 : decode b_Master_openQuestion 41 = .ok (.getfield 85, 3) := by decide +kernel
theorem d_Master_openQuestion_44 : decode b_Master_openQuestion 44 = .ok (.invokespecial 88, 3) := by decide +kernel
theorem d_Master_openQuestion_47 : decode b_Master_openQuestion 47 = .ok (.aastore, 1) := by decide +kernel
theorem d_Master_openQuestion_48 : decode b_Master_openQuestion 48 = .ok (.aload_n 0, 1) := by decide +kernel
theorem d_Master_openQuestion_49 : decode b_Master_openQuestion 49 = .ok (.dup, 1) := by decide +kernel
theorem d_Master_openQuestion_50 : decode b_Master_openQuestion 50 = .ok (.getfield 46, 3) := by decide +kernel
theorem d_Master_openQuestion_53 : decode b_Master_openQuestion 53 = .ok (.iconst 1, 1) := by decide +kernel
theorem d_Master_openQuestion_54 : decode b_Master_openQuestion 54 = .ok (.iadd, 1) := by decide +kernel
theorem d_Master_openQuestion_55 : decode b_Master_openQuestion 55 = .ok (.putfield 46, 3) := by decide +kernel
theorem d_Master_openQuestion_58 : decode b_Master_openQuestion 58 = .ok (.iconst 0, 1) := by decide +kernel
theorem d_Master_openQuestion_59 : decode b_Master_openQuestion 59 = .ok (.istore_n 3, 1) := by decide +kernel
theorem d_Master_openQuestion_60 : decode b_Master_openQuestion 60 = .ok (.iload_n 3, 1) := by decide +kernel
theorem d_Master_openQuestion_61 : decode b_Master_openQuestion 61 = .ok (.iconst 3, 1) := by decide +kernel
theorem d_Master_openQuestion_62 : decode b_Master_openQuestion 62 = .ok (.if_icmp .ge 37, 3) := by decide +kernel
theorem d_Master_openQuestion_65 : decode b_Master_openQuestion 65 = .ok (.aload_n 0, 1) := by decide +kernel
theorem d_Master_openQuestion_66 : decode b_Master_openQuestion 66 = .ok (.getfield 31, 3) := by decide +kernel
theorem d_Master_openQuestion_69 : decode b_Master_openQuestion 69 = .ok (.iconst 1, 1) := by decide +kernel
theorem d_Master_openQuestion_70 : decode b_Master_openQuestion 70 = .ok (.iload_n 3, 1) := by decide +kernel
theorem d_Master_openQuestion_71 : decode b_Master_openQuestion 71 = .ok (.ishl, 1) := by decide +kernel
theorem d_Master_openQuestion_72 : decode b_Master_openQuestion 72 = .ok (.iand, 1) := by decide +kernel
theorem d_Master_openQuestion_73 : decode b_Master_openQuestion 73 = .ok (.ifCond .eq 20, 3) := by decide +kernel
theorem d_Master_openQuestion_76 : decode b_Master_openQuestion 76 = .ok (.aload_n 2, 1) := by decide +kernel
theorem d_Master_openQuestion_77 : decode b_Master_openQuestion 77 = .ok (.iconst 2, 1) := by decide +kernel
theorem d_Master_openQuestion_78 : decode b_Master_openQuestion 78 = .ok (.iload_n 3, 1) := by decide +kernel
theorem d_Master_openQuestion_79 : decode b_Master_openQuestion 79 = .ok (.aload_n 0, 1) := by decide +kernel
theorem d_Master_openQuestion_80 : decode b_Master_openQuestion 80 = .ok (.getfield 27, 3) := by decide +kernel
theorem d_Master_openQuestion_83 : decode b_Master_openQuestion 83 = .ok (.invokevirtual 91, 3) := by decide +kernel
theorem d_Master_openQuestion_86 : decode b_Master_openQuestion 86 = .ok (.aload_n 0, 1) := by decide +kernel
theorem d_Master_openQuestion_87 : decode b_Master_openQuestion 87 = .ok (.getfield 79, 3) := by decide +kernel
theorem d_Master_openQuestion_90 : decode b_Master_openQuestion 90 = .ok (.putfield 97, 3) := by decide +kernel
theorem d_Master_openQuestion_93 : decode b_Master_openQuestion 93 = .ok (.iinc 3 1, 3) := by decide +kernel
theorem d_Master_openQuestion_96 : decode b_Master_openQuestion 96 = .ok (.goto (-36), 3) := by decide +kernel
theorem d_Master_openQuestion_99 : decode b_Master_openQuestion 99 = .ok (.return_, 1) := by decide +kernel
theorem d_Master_placeOfQuestion_0 : decode b_Master_placeOfQuestion 0 = .ok (.iconst 0, 1) := by decide +kernel
theorem d_Master_placeOfQuestion_1 : decode b_Master_placeOfQuestion 1 = .ok (.istore_n 2, 1) := by decide +kernel
theorem d_Master_placeOfQuestion_2 : decode b_Master_placeOfQuestion 2 = .ok (.iload_n 2, 1) := by decide +kernel
theorem d_Master_placeOfQuestion_3 : decode b_Master_placeOfQuestion 3 = .ok (.aload_n 0, 1) := by decide +kernel
theorem d_Master_placeOfQuestion_4 : decode b_Master_placeOfQuestion 4 = .ok (.getfield 46, 3) := by decide +kernel
theorem d_Master_placeOfQuestion_7 : decode b_Master_placeOfQuestion 7 = .ok (.if_icmp .ge 24, 3) := by decide +kernel
theorem d_Master_placeOfQuestion_10 : decode b_Master_placeOfQuestion 10 = .ok (.aload_n 0, 1) := by decide +kernel
theorem d_Master_placeOfQuestion_11 : decode b_Master_placeOfQuestion 11 = .ok (.getfield 17, 3) := by decide +kernel
theorem d_Master_placeOfQuestion_14 : decode b_Master_placeOfQuestion 14 = .ok (.iload_n 2, 1) := by decide +kernel
theorem d_Master_placeOfQuestion_15 : decode b_Master_placeOfQuestion 15 = .ok (.aaload, 1) := by decide +kernel
theorem d_Master_placeOfQuestion_16 : decode b_Master_placeOfQuestion 16 = .ok (.getfield 115, 3) := by decide +kernel
theorem d_Master_placeOfQuestion_19 : decode b_Master_placeOfQuestion 19 = .ok (.iload_n 1, 1) := by decide +kernel
theorem d_Master_placeOfQuestion_20 : decode b_Master_placeOfQuestion 20 = .ok (.if_icmp .ne 5, 3) := by decide +kernel
theorem d_Master_placeOfQuestion_23 : decode b_Master_placeOfQuestion 23 = .ok (.iload_n 2, 1) := by decide +kernel
theorem d_Master_placeOfQuestion_24 : decode b_Master_placeOfQuestion 24 = .ok (.ireturn, 1) := by decide +kernel
theorem d_Master_placeOfQuestion_25 : decode b_Master_placeOfQuestion 25 = .ok (.iinc 2 1, 3) := by decide +kernel
theorem d_Master_placeOfQuestion_28 : decode b_Master_placeOfQuestion 28 = .ok (.goto (-26), 3) := by decide +kernel
theorem d_Master_placeOfQuestion_31 : decode b_Master_placeOfQuestion 31 = .ok (.iconst (-1), 1) := by decide +kernel
theorem d_Master_placeOfQuestion_32 : decode b_Master_placeOfQuestion 32 = .ok (.ireturn, 1) := by decide +kernel
theorem d_Master_answer_0 : decode b_Master_answer 0 = .ok (.aload_n 2, 1) := by decide +kernel
theorem d_Master_answer_1 : decode b_Master_answer 1 = .ok (.iconst 4, 1) := by decide +kernel
theorem d_Master_answer_2 : decode b_Master_answer 2 = .ok (.aload_n 1, 1) := by decide +kernel
theorem d_Master_answer_3 : decode b_Master_answer 3 = .ok (.getfield 116, 3) := by decide +kernel
theorem d_Master_answer_6 : decode b_Master_answer 6 = .ok (.aload_n 0, 1) := by decide +kernel
theorem d_Master_answer_7 : decode b_Master_answer 7 = .ok (.getfield 27, 3) := by decide +kernel
theorem d_Master_answer_10 : decode b_Master_answer 10 = .ok (.invokevirtual 91, 3) := by decide +kernel
theorem d_Master_answer_13 : decode b_Master_answer 13 = .ok (.astore_n 3, 1) := by decide +kernel
theorem d_Master_answer_14 : decode b_Master_answer 14 = .ok (.aload_n 3, 1) := by decide +kernel
theorem d_Master_answer_15 : decode b_Master_answer 15 = .ok (.aload_n 1, 1) := by decide +kernel
theorem d_Master_answer_16 : decode b_Master_answer 16 = .ok (.getfield 119, 3) := by decide +kernel
theorem d_Master_answer_19 : decode b_Master_answer 19 = .ok (.putfield 85, 3) := by decide +kernel
theorem d_Master_answer_22 : decode b_Master_answer 22 = .ok (.aload_n 3, 1) := by decide +kernel
theorem d_Master_answer_23 : decode b_Master_answer 23 = .ok (.aload_n 0, 1) := by decide +kernel
theorem d_Master_answer_24 : decode b_Master_answer 24 = .ok (.getfield 43, 3) := by decide +kernel
theorem d_Master_answer_27 : decode b_Master_answer 27 = .ok (.putfield 120, 3) := by decide +kernel
theorem d_Master_answer_30 : decode b_Master_answer 30 = .ok (.return_, 1) := by decide +kernel
theorem d_Master_removeQuestion_0 : decode b_Master_removeQuestion 0 = .ok (.aload_n 0, 1) := by decide +kernel
theorem d_Master_removeQuestion_1 : decode b_Master_removeQuestion 1 = .ok (.dup, 1) := by decide +kernel
theorem d_Master_removeQuestion_2 : decode b_Master_removeQuestion 2 = .ok (.getfield 46, 3) := by decide +kernel
theorem d_Master_removeQuestion_5 : decode b_Master_removeQuestion 5 = .ok (.iconst 1, 1) := by decide +kernel
theorem d_Master_removeQuestion_6 : decode b_Master_removeQuestion 6 = .ok (.isub, 1) := by decide +kernel
theorem d_Master_removeQuestion_7 : decode b_Master_removeQuestion 7 = .ok (.putfield 46, 3) := by decide +kernel
theorem d_Master_removeQuestion_10 : decode b_Master_removeQuestion 10 = .ok (.iload_n 1, 1) := by decide +kernel
theorem d_Master_removeQuestion_11 : decode b_Master_removeQuestion 11 = .ok (.istore_n 2, 1) := by decide +kernel
theorem d_Master_removeQuestion_12 : decode b_Master_removeQuestion 12 = .ok (.iload_n 2, 1) := by decide +kernel
theorem d_Master_removeQuestion_13 : decode b_Master_removeQuestion 13 = .ok (.aload_n 0, 1) := by decide +kernel
theorem d_Master_removeQuestion_14 : decode b_Master_removeQuestion 14 = .ok (.getfield 46, 3) := by decide +kernel
theorem d_Master_removeQuestion_17 : decode b_Master_removeQuestion 17 = .ok (.if_icmp .ge 23, 3) := by decide +kernel
theorem d_Master_removeQuestion_20 : decode b_Master_removeQuestion 20 = .ok (.aload_n 0, 1) := by decide +kernel
theorem d_Master_removeQuestion_21 : decode b_Master_removeQuestion 21 = .ok (.getfield 17, 3) := by decide +kernel
theorem d_Master_removeQuestion_24 : decode b_Master_removeQuestion 24 = .ok (.iload_n 2, 1) := by decide +kernel
theorem d_Master_removeQuestion_25 : decode b_Master_removeQuestion 25 = .ok (.aload_n 0, 1) := by decide +kernel
theorem d_Master_removeQuestion_26 : decode b_Master_removeQuestion 26 = .ok (.getfield 17, 3) := by decide +kernel
theorem d_Master_removeQuestion_29 : decode b_Master_removeQuestion 29 = .ok (.iload_n 2, 1) := by decide +kernel
theorem d_Master_removeQuestion_30 : decode b_Master_removeQuestion 30 = .ok (.iconst 1, 1) := by decide +kernel
theorem d_Master_removeQuestion_31 : decode b_Master_removeQuestion 31 = .ok (.iadd, 1) := by decide +kernel
theorem d_Master_removeQuestion_32 : decode b_Master_removeQuestion 32 = .ok (.aaload, 1) := by decide +kernel
theorem d_Master_removeQuestion_33 : decode b_Master_removeQuestion 33 = .ok (.aastore, 1) := by decide +kernel
theorem d_Master_removeQuestion_34 : decode b_Master_removeQuestion 34 = .ok (.iinc 2 1, 3) := by decide +kernel
theorem d_Master_removeQuestion_37 : decode b_Master_removeQuestion 37 = .ok (.goto (-25), 3) := by decide +kernel
theorem d_Master_removeQuestion_40 : decode b_Master_removeQuestion 40 = .ok (.return_, 1) := by decide +kernel
theorem d_Master_takeConfirmation_0 : decode b_Master_takeConfirmation 0 = .ok (.aload_n 0, 1) := by decide +kernel
theorem d_Master_takeConfirmation_1 : decode b_Master_takeConfirmation 1 = .ok (.aload_n 1, 1) := by decide +kernel
theorem d_Master_takeConfirmation_2 : decode b_Master_takeConfirmation 2 = .ok (.getfield 97, 3) := by decide +kernel
theorem d_Master_takeConfirmation_5 : decode b_Master_takeConfirmation 5 = .ok (.invokevirtual 100, 3) := by decide +kernel
theorem d_Master_takeConfirmation_8 : decode b_Master_takeConfirmation 8 = .ok (.istore_n 3, 1) := by decide +kernel
theorem d_Master_takeConfirmation_9 : decode b_Master_takeConfirmation 9 = .ok (.iload_n 3, 1) := by decide +kernel
theorem d_Master_takeConfirmation_10 : decode b_Master_takeConfirmation 10 = .ok (.iconst (-1), 1) := by decide +kernel
theorem d_Master_takeConfirmation_11 : decode b_Master_takeConfirmation 11 = .ok (.if_icmp .ne 4, 3) := by decide +kernel
theorem d_Master_takeConfirmation_14 : decode b_Master_takeConfirmation 14 = .ok (.return_, 1) := by decide +kernel
theorem d_Master_takeConfirmation_15 : decode b_Master_takeConfirmation 15 = .ok (.aload_n 0, 1) := by decide +kernel
theorem d_Master_takeConfirmation_16 : decode b_Master_takeConfirmation 16 = .ok (.getfield 17, 3) := by decide +kernel
theorem d_Master_takeConfirmation_19 : decode b_Master_takeConfirmation 19 = .ok (.iload_n 3, 1) := by decide +kernel
theorem d_Master_takeConfirmation_20 : decode b_Master_takeConfirmation 20 = .ok (.aaload, 1) := by decide +kernel
theorem d_Master_takeConfirmation_21 : decode b_Master_takeConfirmation 21 = .ok (.dup, 1) := by decide +kernel
theorem d_Master_takeConfirmation_22 : decode b_Master_takeConfirmation 22 = .ok (.getfield 104, 3) := by decide +kernel
theorem d_Master_takeConfirmation_25 : decode b_Master_takeConfirmation 25 = .ok (.iconst 1, 1) := by decide +kernel
theorem d_Master_takeConfirmation_26 : decode b_Master_takeConfirmation 26 = .ok (.aload_n 1, 1) := by decide +kernel
theorem d_Master_takeConfirmation_27 : decode b_Master_takeConfirmation 27 = .ok (.getfield 82, 3) := by decide +kernel
theorem d_Master_takeConfirmation_30 : decode b_Master_takeConfirmation 30 = .ok (.ishl, 1) := by decide +kernel
theorem d_Master_takeConfirmation_31 : decode b_Master_takeConfirmation 31 = .ok (.ior, 1) := by decide +kernel
theorem d_Master_takeConfirmation_32 : decode b_Master_takeConfirmation 32 = .ok (.putfield 104, 3) := by decide +kernel
theorem d_Master_takeConfirmation_35 : decode b_Master_takeConfirmation 35 = .ok (.aload_n 0, 1) := by decide +kernel
theorem d_Master_takeConfirmation_36 : decode b_Master_takeConfirmation 36 = .ok (.getfield 17, 3) := by decide +kernel
theorem d_Master_takeConfirmation_39 : decode b_Master_takeConfirmation 39 = .ok (.iload_n 3, 1) := by decide +kernel
theorem d_Master_takeConfirmation_40 : decode b_Master_takeConfirmation 40 = .ok (.aaload, 1) := by decide +kernel
theorem d_Master_takeConfirmation_41 : decode b_Master_takeConfirmation 41 = .ok (.getfield 104, 3) := by decide +kernel
theorem d_Master_takeConfirmation_44 : decode b_Master_takeConfirmation 44 = .ok (.aload_n 0, 1) := by decide +kernel
theorem d_Master_takeConfirmation_45 : decode b_Master_takeConfirmation 45 = .ok (.getfield 31, 3) := by decide +kernel
theorem d_Master_takeConfirmation_48 : decode b_Master_takeConfirmation 48 = .ok (.if_icmp .ne 19, 3) := by decide +kernel
theorem d_Master_takeConfirmation_51 : decode b_Master_takeConfirmation 51 = .ok (.aload_n 0, 1) := by decide +kernel
theorem d_Master_takeConfirmation_52 : decode b_Master_takeConfirmation 52 = .ok (.aload_n 0, 1) := by decide +kernel
theorem d_Master_takeConfirmation_53 : decode b_Master_takeConfirmation 53 = .ok (.getfield 17, 3) := by decide +kernel
theorem d_Master_takeConfirmation_56 : decode b_Master_takeConfirmation 56 = .ok (.iload_n 3, 1) := by decide +kernel
theorem d_Master_takeConfirmation_57 : decode b_Master_takeConfirmation 57 = .ok (.aaload, 1) := by decide +kernel
theorem d_Master_takeConfirmation_58 : decode b_Master_takeConfirmation 58 = .ok (.aload_n 2, 1) := by decide +kernel
theorem d_Master_takeConfirmation_59 : decode b_Master_takeConfirmation 59 = .ok (.invokevirtual 107, 3) := by decide +kernel
theorem d_Master_takeConfirmation_62 : decode b_Master_takeConfirmation 62 = .ok (.aload_n 0, 1) := by decide +kernel
theorem d_Master_takeConfirmation_63 : decode b_Master_takeConfirmation 63 = .ok (.iload_n 3, 1) := by decide +kernel
theorem d_Master_takeConfirmation_64 : decode b_Master_takeConfirmation 64 = .ok (.invokevirtual 111, 3) := by decide +kernel
theorem d_Master_takeConfirmation_67 : decode b_Master_takeConfirmation 67 = .ok (.return_, 1) := by decide +kernel
