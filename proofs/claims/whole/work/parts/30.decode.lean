theorem d_Storage_goBackTo_0 : decode b_Storage_goBackTo 0 = .ok (.aload_n 0, 1) := by decide +kernel
theorem d_Storage_goBackTo_1 : decode b_Storage_goBackTo 1 = .ok (.getfield 31, 3) := by decide +kernel
theorem d_Storage_goBackTo_4 : decode b_Storage_goBackTo 4 = .ok (.ifCond .le 34, 3) := by decide +kernel
theorem d_Storage_goBackTo_7 : decode b_Storage_goBackTo 7 = .ok (.aload_n 0, 1) := by decide +kernel
theorem d_Storage_goBackTo_8 : decode b_Storage_goBackTo 8 = .ok (.getfield 24, 3) := by decide +kernel
theorem d_Storage_goBackTo_11 : decode b_Storage_goBackTo 11 = .ok (.aload_n 0, 1) := by decide +kernel
theorem d_Storage_goBackTo_12 : decode b_Storage_goBackTo 12 = .ok (.getfield 31, 3) := by decide +kernel
theorem d_Storage_goBackTo_15 : decode b_Storage_goBackTo 15 = .ok (.iconst 1, 1) := by decide +kernel
theorem d_Storage_goBackTo_16 : decode b_Storage_goBackTo 16 = .ok (.isub, 1) := by decide +kernel
theorem d_Storage_goBackTo_17 : decode b_Storage_goBackTo 17 = .ok (.aaload, 1) := by decide +kernel
theorem d_Storage_goBackTo_18 : decode b_Storage_goBackTo 18 = .ok (.getfield 55, 3) := by decide +kernel
theorem d_Storage_goBackTo_21 : decode b_Storage_goBackTo 21 = .ok (.iload_n 1, 1) := by decide +kernel
theorem d_Storage_goBackTo_22 : decode b_Storage_goBackTo 22 = .ok (.if_icmp .le 16, 3) := by decide +kernel
theorem d_Storage_goBackTo_25 : decode b_Storage_goBackTo 25 = .ok (.aload_n 0, 1) := by decide +kernel
theorem d_Storage_goBackTo_26 : decode b_Storage_goBackTo 26 = .ok (.dup, 1) := by decide +kernel
theorem d_Storage_goBackTo_27 : decode b_Storage_goBackTo 27 = .ok (.getfield 31, 3) := by decide +kernel
theorem d_Storage_goBackTo_30 : decode b_Storage_goBackTo 30 = .ok (.iconst 1, 1) := by decide +kernel
theorem d_Storage_goBackTo_31 : decode b_Storage_goBackTo 31 = .ok (.isub, 1) := by decide +kernel
theorem d_Storage_goBackTo_32 : decode b_Storage_goBackTo 32 = .ok (.putfield 31, 3) := by decide +kernel
theorem d_Storage_goBackTo_35 : decode b_Storage_goBackTo 35 = .ok (.goto (-35), 3) := by decide +kernel
theorem d_Storage_goBackTo_38 : decode b_Storage_goBackTo 38 = .ok (.aload_n 0, 1) := by decide +kernel
theorem d_Storage_goBackTo_39 : decode b_Storage_goBackTo 39 = .ok (.aload_n 0, 1) := by decide +kernel
theorem d_Storage_goBackTo_40 : decode b_Storage_goBackTo 40 = .ok (.getfield 19, 3) := by decide +kernel
theorem d_Storage_goBackTo_43 : decode b_Storage_goBackTo 43 = .ok (.iload_n 1, 1) := by decide +kernel
theorem d_Storage_goBackTo_44 : decode b_Storage_goBackTo 44 = .ok (.invokestatic 67, 3) := by decide +kernel
theorem d_Storage_goBackTo_47 : decode b_Storage_goBackTo 47 = .ok (.putfield 19, 3) := by decide +kernel
theorem d_Storage_goBackTo_50 : decode b_Storage_goBackTo 50 = .ok (.return_, 1) := by decide +kernel
theorem d_Log_firstAbove_0 : decode b_Log_firstAbove 0 = .ok (.iconst 0, 1) := by decide +kernel
theorem d_Log_firstAbove_1 : decode b_Log_firstAbove 1 = .ok (.istore_n 2, 1) := by decide +kernel
theorem d_Log_firstAbove_2 : decode b_Log_firstAbove 2 = .ok (.iload_n 2, 1) := by decide +kernel
theorem d_Log_firstAbove_3 : decode b_Log_firstAbove 3 = .ok (.aload_n 0, 1) := by decide +kernel
theorem d_Log_firstAbove_4 : decode b_Log_firstAbove 4 = .ok (.getfield 35, 3) := by decide +kernel
theorem d_Log_firstAbove_7 : decode b_Log_firstAbove 7 = .ok (.if_icmp .ge 29, 3) := by decide +kernel
theorem d_Log_firstAbove_10 : decode b_Log_firstAbove 10 = .ok (.aload_n 0, 1) := by decide +kernel
theorem d_Log_firstAbove_11 : decode b_Log_firstAbove 11 = .ok (.getfield 28, 3) := by decide +kernel
theorem d_Log_firstAbove_14 : decode b_Log_firstAbove 14 = .ok (.iload_n 2, 1) := by decide +kernel
theorem d_Log_firstAbove_15 : decode b_Log_firstAbove 15 = .ok (.aaload, 1) := by decide +kernel
theorem d_Log_firstAbove_16 : decode b_Log_firstAbove 16 = .ok (.getfield 68, 3) := by decide +kernel
theorem d_Log_firstAbove_19 : decode b_Log_firstAbove 19 = .ok (.iload_n 1, 1) := by decide +kernel
theorem d_Log_firstAbove_20 : decode b_Log_firstAbove 20 = .ok (.if_icmp .le 10, 3) := by decide +kernel
theorem d_Log_firstAbove_23 : decode b_Log_firstAbove 23 = .ok (.aload_n 0, 1) := by decide +kernel
theorem d_Log_firstAbove_24 : decode b_Log_firstAbove 24 = .ok (.getfield 28, 3) := by decide +kernel
theorem d_Log_firstAbove_27 : decode b_Log_firstAbove 27 = .ok (.iload_n 2, 1) := by decide +kernel
theorem d_Log_firstAbove_28 : decode b_Log_firstAbove 28 = .ok (.aaload, 1) := by decide +kernel
theorem d_Log_firstAbove_29 : decode b_Log_firstAbove 29 = .ok (.areturn, 1) := by decide +kernel
theorem d_Log_firstAbove_30 : decode b_Log_firstAbove 30 = .ok (.iinc 2 1, 3) := by decide +kernel
theorem d_Log_firstAbove_33 : decode b_Log_firstAbove 33 = .ok (.goto (-31), 3) := by decide +kernel
theorem d_Log_firstAbove_36 : decode b_Log_firstAbove 36 = .ok (.aconst_null, 1) := by decide +kernel
theorem d_Log_firstAbove_37 : decode b_Log_firstAbove 37 = .ok (.areturn, 1) := by decide +kernel
theorem d_Storage_keep_0 : decode b_Storage_keep 0 = .ok (.aload_n 1, 1) := by decide +kernel
theorem d_Storage_keep_1 : decode b_Storage_keep 1 = .ok (.getfield 70, 3) := by decide +kernel
theorem d_Storage_keep_4 : decode b_Storage_keep 4 = .ok (.getfield 74, 3) := by decide +kernel
theorem d_Storage_keep_7 : decode b_Storage_keep 7 = .ok (.aload_n 0, 1) := by decide +kernel
theorem d_Storage_keep_8 : decode b_Storage_keep 8 = .ok (.getfield 28, 3) := by decide +kernel
theorem d_Storage_keep_11 : decode b_Storage_keep 11 = .ok (.iand, 1) := by decide +kernel
theorem d_Storage_keep_12 : decode b_Storage_keep 12 = .ok (.ifCond .eq 32, 3) := by decide +kernel
theorem d_Storage_keep_15 : decode b_Storage_keep 15 = .ok (.aload_n 0, 1) := by decide +kernel
theorem d_Storage_keep_16 : decode b_Storage_keep 16 = .ok (.getfield 31, 3) := by decide +kernel
theorem d_Storage_keep_19 : decode b_Storage_keep 19 = .ok (.bipush 100, 2) := by decide +kernel
theorem d_Storage_keep_21 : decode b_Storage_keep 21 = .ok (.if_icmp .ge 23, 3) := by decide +kernel
theorem d_Storage_keep_24 : decode b_Storage_keep 24 = .ok (.aload_n 0, 1) := by decide +kernel
theorem d_Storage_keep_25 : decode b_Storage_keep 25 = .ok (.getfield 24, 3) := by decide +kernel
theorem d_Storage_keep_28 : decode b_Storage_keep 28 = .ok (.aload_n 0, 1) := by decide +kernel
theorem d_Storage_keep_29 : decode b_Storage_keep 29 = .ok (.getfield 31, 3) := by decide +kernel
theorem d_Storage_keep_32 : decode b_Storage_keep 32 = .ok (.aload_n 1, 1) := by decide +kernel
theorem d_Storage_keep_33 : decode b_Storage_keep 33 = .ok (.aastore, 1) := by decide +kernel
theorem d_Storage_keep_34 : decode b_Storage_keep 34 = .ok (.aload_n 0, 1) := by decide +kernel
theorem d_Storage_keep_35 : decode b_Storage_keep 35 = .ok (.dup, 1) := by decide +kernel
theorem d_Storage_keep_36 : decode b_Storage_keep 36 = .ok (.getfield 31, 3) := by decide +kernel
theorem d_Storage_keep_39 : decode b_Storage_keep 39 = .ok (.iconst 1, 1) := by decide +kernel
theorem d_Storage_keep_40 : decode b_Storage_keep 40 = .ok (.iadd, 1) := by decide +kernel
theorem d_Storage_keep_41 : decode b_Storage_keep 41 = .ok (.putfield 31, 3) := by decide +kernel
theorem d_Storage_keep_44 : decode b_Storage_keep 44 = .ok (.return_, 1) := by decide +kernel
theorem d_Storage_advanceFrom_0 : decode b_Storage_advanceFrom 0 = .ok (.aload_n 0, 1) := by decide +kernel
theorem d_Storage_advanceFrom_1 : decode b_Storage_advanceFrom 1 = .ok (.getfield 9, 3) := by decide +kernel
theorem d_Storage_advanceFrom_4 : decode b_Storage_advanceFrom 4 = .ok (.ifCond .eq 21, 3) := by decide +kernel
theorem d_Storage_advanceFrom_7 : decode b_Storage_advanceFrom 7 = .ok (.aload_n 1, 1) := by decide +kernel
theorem d_Storage_advanceFrom_8 : decode b_Storage_advanceFrom 8 = .ok (.getfield 35, 3) := by decide +kernel
theorem d_Storage_advanceFrom_11 : decode b_Storage_advanceFrom 11 = .ok (.ifCond .eq 14, 3) := by decide +kernel
theorem d_Storage_advanceFrom_14 : decode b_Storage_advanceFrom 14 = .ok (.aload_n 1, 1) := by decide +kernel
theorem d_Storage_advanceFrom_15 : decode b_Storage_advanceFrom 15 = .ok (.getfield 38, 3) := by decide +kernel
theorem d_Storage_advanceFrom_18 : decode b_Storage_advanceFrom 18 = .ok (.aload_n 0, 1) := by decide +kernel
theorem d_Storage_advanceFrom_19 : decode b_Storage_advanceFrom 19 = .ok (.getfield 15, 3) := by decide +kernel
theorem d_Storage_advanceFrom_22 : decode b_Storage_advanceFrom 22 = .ok (.if_icmp .ge 5, 3) := by decide +kernel
theorem d_Storage_advanceFrom_25 : decode b_Storage_advanceFrom 25 = .ok (.iconst (-1), 1) := by decide +kernel
theorem d_Storage_advanceFrom_26 : decode b_Storage_advanceFrom 26 = .ok (.ireturn, 1) := by decide +kernel
theorem d_Storage_advanceFrom_27 : decode b_Storage_advanceFrom 27 = .ok (.aload_n 1, 1) := by decide +kernel
theorem d_Storage_advanceFrom_28 : decode b_Storage_advanceFrom 28 = .ok (.getfield 38, 3) := by decide +kernel
theorem d_Storage_advanceFrom_31 : decode b_Storage_advanceFrom 31 = .ok (.aload_n 0, 1) := by decide +kernel
theorem d_Storage_advanceFrom_32 : decode b_Storage_advanceFrom 32 = .ok (.getfield 15, 3) := by decide +kernel
theorem d_Storage_advanceFrom_35 : decode b_Storage_advanceFrom 35 = .ok (.if_icmp .le 26, 3) := by decide +kernel
theorem d_Storage_advanceFrom_38 : decode b_Storage_advanceFrom 38 = .ok (.aload_n 0, 1) := by decide +kernel
theorem d_Storage_advanceFrom_39 : decode b_Storage_advanceFrom 39 = .ok (.aload_n 1, 1) := by decide +kernel
theorem d_Storage_advanceFrom_40 : decode b_Storage_advanceFrom 40 = .ok (.getfield 39, 3) := by decide +kernel
theorem d_Storage_advanceFrom_43 : decode b_Storage_advanceFrom 43 = .ok (.aload_n 0, 1) := by decide +kernel
theorem d_Storage_advanceFrom_44 : decode b_Storage_advanceFrom 44 = .ok (.getfield 15, 3) := by decide +kernel
theorem d_Storage_advanceFrom_47 : decode b_Storage_advanceFrom 47 = .ok (.iconst 1, 1) := by decide +kernel
theorem d_Storage_advanceFrom_48 : decode b_Storage_advanceFrom 48 = .ok (.iadd, 1) := by decide +kernel
theorem d_Storage_advanceFrom_49 : decode b_Storage_advanceFrom 49 = .ok (.iaload, 1) := by decide +kernel
theorem d_Storage_advanceFrom_50 : decode b_Storage_advanceFrom 50 = .ok (.invokevirtual 43, 3) := by decide +kernel
theorem d_Storage_advanceFrom_53 : decode b_Storage_advanceFrom 53 = .ok (.aload_n 0, 1) := by decide +kernel
theorem d_Storage_advanceFrom_54 : decode b_Storage_advanceFrom 54 = .ok (.aload_n 1, 1) := by decide +kernel
theorem d_Storage_advanceFrom_55 : decode b_Storage_advanceFrom 55 = .ok (.getfield 38, 3) := by decide +kernel
theorem d_Storage_advanceFrom_58 : decode b_Storage_advanceFrom 58 = .ok (.putfield 15, 3) := by decide +kernel
theorem d_Storage_advanceFrom_61 : decode b_Storage_advanceFrom 61 = .ok (.aload_n 1, 1) := by decide +kernel
theorem d_Storage_advanceFrom_62 : decode b_Storage_advanceFrom 62 = .ok (.aload_n 0, 1) := by decide +kernel
theorem d_Storage_advanceFrom_63 : decode b_Storage_advanceFrom 63 = .ok (.getfield 19, 3) := by decide +kernel
theorem d_Storage_advanceFrom_66 : decode b_Storage_advanceFrom 66 = .ok (.invokevirtual 47, 3) := by decide +kernel
theorem d_Storage_advanceFrom_69 : decode b_Storage_advanceFrom 69 = .ok (.astore_n 2, 1) := by decide +kernel
theorem d_Storage_advanceFrom_70 : decode b_Storage_advanceFrom 70 = .ok (.aload_n 2, 1) := by decide +kernel
theorem d_Storage_advanceFrom_71 : decode b_Storage_advanceFrom 71 = .ok (.ifnull 19, 3) := by decide +kernel
theorem d_Storage_advanceFrom_74 : decode b_Storage_advanceFrom 74 = .ok (.aload_n 0, 1) := by decide +kernel
theorem d_Storage_advanceFrom_75 : decode b_Storage_advanceFrom 75 = .ok (.aload_n 2, 1) := by decide +kernel
theorem d_Storage_advanceFrom_76 : decode b_Storage_advanceFrom 76 = .ok (.invokevirtual 51, 3) := by decide +kernel
theorem d_Storage_advanceFrom_79 : decode b_Storage_advanceFrom 79 = .ok (.aload_n 0, 1) := by decide +kernel
theorem d_Storage_advanceFrom_80 : decode b_Storage_advanceFrom 80 = .ok (.aload_n 2, 1) := by decide +kernel
theorem d_Storage_advanceFrom_81 : decode b_Storage_advanceFrom 81 = .ok (.getfield 55, 3) := by decide +kernel
theorem d_Storage_advanceFrom_84 : decode b_Storage_advanceFrom 84 = .ok (.putfield 19, 3) := by decide +kernel
theorem d_Storage_advanceFrom_87 : decode b_Storage_advanceFrom 87 = .ok (.goto 18, 3) := by decide +kernel
theorem d_Storage_advanceFrom_90 : decode b_Storage_advanceFrom 90 = .ok (.aload_n 0, 1) := by decide +kernel
theorem d_Storage_advanceFrom_91 : decode b_Storage_advanceFrom 91 = .ok (.aload_n 0, 1) := by decide +kernel
theorem d_Storage_advanceFrom_92 : decode b_Storage_advanceFrom 92 = .ok (.getfield 19, 3) := by decide +kernel
theorem d_Storage_advanceFrom_95 : decode b_Storage_advanceFrom 95 = .ok (.aload_n 1, 1) := by decide +kernel
theorem d_Storage_advanceFrom_96 : decode b_Storage_advanceFrom 96 = .ok (.getfield 58, 3) := by decide +kernel
theorem d_Storage_advanceFrom_99 : decode b_Storage_advanceFrom 99 = .ok (.invokestatic 61, 3) := by decide +kernel
theorem d_Storage_advanceFrom_102 : decode b_Storage_advanceFrom 102 = .ok (.putfield 19, 3) := by decide +kernel
theorem d_Storage_advanceFrom_105 : decode b_Storage_advanceFrom 105 = .ok (.aload_n 0, 1) := by decide +kernel
theorem d_Storage_advanceFrom_106 : decode b_Storage_advanceFrom 106 = .ok (.getfield 19, 3) := by decide +kernel
theorem d_Storage_advanceFrom_109 : decode b_Storage_advanceFrom 109 = .ok (.ireturn, 1) := by decide +kernel
theorem d_ES_pull_0 : decode b_ES_pull 0 = .ok (.iload_n 1, 1) := by decide +kernel
theorem d_ES_pull_1 : decode b_ES_pull 1 = .ok (.invokestatic 164, 3) := by decide +kernel
theorem d_ES_pull_4 : decode b_ES_pull 4 = .ok (.ifCond .eq 10, 3) := by decide +kernel
theorem d_ES_pull_7 : decode b_ES_pull 7 = .ok (.iload_n 2, 1) := by decide +kernel
theorem d_ES_pull_8 : decode b_ES_pull 8 = .ok (.invokestatic 167, 3) := by decide +kernel
theorem d_ES_pull_11 : decode b_ES_pull 11 = .ok (.ifCond .ne 5, 3) := by decide +kernel
theorem d_ES_pull_14 : decode b_ES_pull 14 = .ok (.iconst (-1), 1) := by decide +kernel
theorem d_ES_pull_15 : decode b_ES_pull 15 = .ok (.ireturn, 1) := by decide +kernel
theorem d_ES_pull_16 : decode b_ES_pull 16 = .ok (.aload_n 0, 1) := by decide +kernel
theorem d_ES_pull_17 : decode b_ES_pull 17 = .ok (.getfield 23, 3) := by decide +kernel
theorem d_ES_pull_20 : decode b_ES_pull 20 = .ok (.iload_n 1, 1) := by decide +kernel
theorem d_ES_pull_21 : decode b_ES_pull 21 = .ok (.aaload, 1) := by decide +kernel
theorem d_ES_pull_22 : decode b_ES_pull 22 = .ok (.aload_n 0, 1) := by decide +kernel
theorem d_ES_pull_23 : decode b_ES_pull 23 = .ok (.getfield 17, 3) := by decide +kernel
theorem d_ES_pull_26 : decode b_ES_pull 26 = .ok (.iload_n 2, 1) := by decide +kernel
theorem d_ES_pull_27 : decode b_ES_pull 27 = .ok (.aaload, 1) := by decide +kernel
theorem d_ES_pull_28 : decode b_ES_pull 28 = .ok (.invokevirtual 170, 3) := by decide +kernel
theorem d_ES_pull_31 : decode b_ES_pull 31 = .ok (.ireturn, 1) := by decide +kernel
theorem d_Master_pushAgain_0 : decode b_Master_pushAgain 0 = .ok (.iconst 0, 1) := by decide +kernel
theorem d_Master_pushAgain_1 : decode b_Master_pushAgain 1 = .ok (.istore_n 2, 1) := by decide +kernel
theorem d_Master_pushAgain_2 : decode b_Master_pushAgain 2 = .ok (.iconst 0, 1) := by decide +kernel
theorem d_Master_pushAgain_3 : decode b_Master_pushAgain 3 = .ok (.istore_n 3, 1) := by decide +kernel
theorem d_Master_pushAgain_4 : decode b_Master_pushAgain 4 = .ok (.iload_n 3, 1) := by decide +kernel
theorem d_Master_pushAgain_5 : decode b_Master_pushAgain 5 = .ok (.aload_n 0, 1) := by decide +kernel
theorem d_Master_pushAgain_6 : decode b_Master_pushAgain 6 = .ok (.getfield 49, 3) := by decide +kernel
theorem d_Master_pushAgain_9 : decode b_Master_pushAgain 9 = .ok (.if_icmp .ge 23, 3) := by decide +kernel
theorem d_Master_pushAgain_12 : decode b_Master_pushAgain 12 = .ok (.iload_n 2, 1) := by decide +kernel
theorem d_Master_pushAgain_13 : decode b_Master_pushAgain 13 = .ok (.aload_n 0, 1) := by decide +kernel
theorem d_Master_pushAgain_14 : decode b_Master_pushAgain 14 = .ok (.aload_n 0, 1) := by decide +kernel
theorem d_Master_pushAgain_15 : decode b_Master_pushAgain 15 = .ok (.getfield 23, 3) := by decide +kernel
theorem d_Master_pushAgain_18 : decode b_Master_pushAgain 18 = .ok (.iload_n 3, 1) := by decide +kernel
theorem d_Master_pushAgain_19 : decode b_Master_pushAgain 19 = .ok (.aaload, 1) := by decide +kernel
theorem d_Master_pushAgain_20 : decode b_Master_pushAgain 20 = .ok (.aload_n 1, 1) := by decide +kernel
theorem d_Master_pushAgain_21 : decode b_Master_pushAgain 21 = .ok (.invokevirtual 75, 3) := by decide +kernel
theorem d_Master_pushAgain_24 : decode b_Master_pushAgain 24 = .ok (.iadd, 1) := by decide +kernel
theorem d_Master_pushAgain_25 : decode b_Master_pushAgain 25 = .ok (.istore_n 2, 1) := by decide +kernel
theorem d_Master_pushAgain_26 : decode b_Master_pushAgain 26 = .ok (.iinc 3 1, 3) := by decide +kernel
theorem d_Master_pushAgain_29 : decode b_Master_pushAgain 29 = .ok (.goto (-25), 3) := by decide +kernel
theorem d_Master_pushAgain_32 : decode b_Master_pushAgain 32 = .ok (.iload_n 2, 1) := by decide +kernel
theorem d_Master_pushAgain_33 : decode b_Master_pushAgain 33 = .ok (.ireturn, 1) := by decide +kernel
theorem d_ES_push_0 : decode b_ES_push 0 = .ok (.aload_n 0, 1) := by decide +kernel
theorem d_ES_push_1 : decode b_ES_push 1 = .ok (.iload_n 1, 1) := by decide +kernel
theorem d_ES_push_2 : decode b_ES_push 2 = .ok (.invokevirtual 146, 3) := by decide +kernel
theorem d_ES_push_5 : decode b_ES_push 5 = .ok (.ifCond .eq 19, 3) := by decide +kernel
theorem d_ES_push_8 : decode b_ES_push 8 = .ok (.aload_n 0, 1) := by decide +kernel
theorem d_ES_push_9 : decode b_ES_push 9 = .ok (.getfield 35, 3) := by decide +kernel
theorem d_ES_push_12 : decode b_ES_push 12 = .ok (.iload_n 1, 1) := by decide +kernel
theorem d_ES_push_13 : decode b_ES_push 13 = .ok (.aaload, 1) := by decide +kernel
theorem d_ES_push_14 : decode b_ES_push 14 = .ok (.aload_n 0, 1) := by decide +kernel
theorem d_ES_push_15 : decode b_ES_push 15 = .ok (.getfield 42, 3) := by decide +kernel
theorem d_ES_push_18 : decode b_ES_push 18 = .ok (.invokevirtual 174, 3) := by decide +kernel
theorem d_ES_push_21 : decode b_ES_push 21 = .ok (.goto 4, 3) := by decide +kernel
theorem d_ES_push_24 : decode b_ES_push 24 = .ok (.iconst (-1), 1) := by decide +kernel
theorem d_ES_push_25 : decode b_ES_push 25 = .ok (.ireturn, 1) := by decide +kernel
theorem d_ES_raiseCoordinators_0 : decode b_ES_raiseCoordinators 0 = .ok (.iconst 0, 1) := by decide +kernel
theorem d_ES_raiseCoordinators_1 : decode b_ES_raiseCoordinators 1 = .ok (.istore_n 2, 1) := by decide +kernel
theorem d_ES_raiseCoordinators_2 : decode b_ES_raiseCoordinators 2 = .ok (.iload_n 2, 1) := by decide +kernel
theorem d_ES_raiseCoordinators_3 : decode b_ES_raiseCoordinators 3 = .ok (.iconst 3, 1) := by decide +kernel
theorem d_ES_raiseCoordinators_4 : decode b_ES_raiseCoordinators 4 = .ok (.if_icmp .ge 31, 3) := by decide +kernel
theorem d_ES_raiseCoordinators_7 : decode b_ES_raiseCoordinators 7 = .ok (.aload_n 0, 1) := by decide +kernel
theorem d_ES_raiseCoordinators_8 : decode b_ES_raiseCoordinators 8 = .ok (.getfield 11, 3) := by decide +kernel
theorem d_ES_raiseCoordinators_11 : decode b_ES_raiseCoordinators 11 = .ok (.iload_n 2, 1) := by decide +kernel
theorem d_ES_raiseCoordinators_12 : decode b_ES_raiseCoordinators 12 = .ok (.aaload, 1) := by decide +kernel
theorem d_ES_raiseCoordinators_13 : decode b_ES_raiseCoordinators 13 = .ok (.getfield 205, 3) := by decide +kernel
theorem d_ES_raiseCoordinators_16 : decode b_ES_raiseCoordinators 16 = .ok (.ifCond .eq 13, 3) := by decide +kernel
theorem d_ES_raiseCoordinators_19 : decode b_ES_raiseCoordinators 19 = .ok (.aload_n 0, 1) := by decide +kernel
theorem d_ES_raiseCoordinators_20 : decode b_ES_raiseCoordinators 20 = .ok (.getfield 11, 3) := by decide +kernel
theorem d_ES_raiseCoordinators_23 : decode b_ES_raiseCoordinators 23 = .ok (.iload_n 2, 1) := by decide +kernel
theorem d_ES_raiseCoordinators_24 : decode b_ES_raiseCoordinators 24 = .ok (.aaload, 1) := by decide +kernel
theorem d_ES_raiseCoordinators_25 : decode b_ES_raiseCoordinators 25 = .ok (.iload_n 1, 1) := by decide +kernel
theorem d_ES_raiseCoordinators_26 : decode b_ES_raiseCoordinators 26 = .ok (.putfield 220, 3) := by decide +kernel
theorem d_ES_raiseCoordinators_29 : decode b_ES_raiseCoordinators 29 = .ok (.iinc 2 1, 3) := by decide +kernel
theorem d_ES_raiseCoordinators_32 : decode b_ES_raiseCoordinators 32 = .ok (.goto (-30), 3) := by decide +kernel
theorem d_ES_raiseCoordinators_35 : decode b_ES_raiseCoordinators 35 = .ok (.return_, 1) := by decide +kernel
theorem d_Log_copyFrom_0 : decode b_Log_copyFrom 0 = .ok (.iconst 0, 1) := by decide +kernel
theorem d_Log_copyFrom_1 : decode b_Log_copyFrom 1 = .ok (.istore_n 2, 1) := by decide +kernel
theorem d_Log_copyFrom_2 : decode b_Log_copyFrom 2 = .ok (.iload_n 2, 1) := by decide +kernel
theorem d_Log_copyFrom_3 : decode b_Log_copyFrom 3 = .ok (.aload_n 1, 1) := by decide +kernel
theorem d_Log_copyFrom_4 : decode b_Log_copyFrom 4 = .ok (.getfield 35, 3) := by decide +kernel
theorem d_Log_copyFrom_7 : decode b_Log_copyFrom 7 = .ok (.if_icmp .ge 21, 3) := by decide +kernel
theorem d_Log_copyFrom_10 : decode b_Log_copyFrom 10 = .ok (.aload_n 0, 1) := by decide +kernel
theorem d_Log_copyFrom_11 : decode b_Log_copyFrom 11 = .ok (.getfield 28, 3) := by decide +kernel
theorem d_Log_copyFrom_14 : decode b_Log_copyFrom 14 = .ok (.iload_n 2, 1) := by decide +kernel
theorem d_Log_copyFrom_15 : decode b_Log_copyFrom 15 = .ok (.aload_n 1, 1) := by decide +kernel
theorem d_Log_copyFrom_16 : decode b_Log_copyFrom 16 = .ok (.getfield 28, 3) := by decide +kernel
theorem d_Log_copyFrom_19 : decode b_Log_copyFrom 19 = .ok (.iload_n 2, 1) := by decide +kernel
theorem d_Log_copyFrom_20 : decode b_Log_copyFrom 20 = .ok (.aaload, 1) := by decide +kernel
theorem d_Log_copyFrom_21 : decode b_Log_copyFrom 21 = .ok (.aastore, 1) := by decide +kernel
theorem d_Log_copyFrom_22 : decode b_Log_copyFrom 22 = .ok (.iinc 2 1, 3) := by decide +kernel
theorem d_Log_copyFrom_25 : decode b_Log_copyFrom 25 = .ok (.goto (-23), 3) := by decide +kernel
theorem d_Log_copyFrom_28 : decode b_Log_copyFrom 28 = .ok (.aload_n 0, 1) := by decide +kernel
theorem d_Log_copyFrom_29 : decode b_Log_copyFrom 29 = .ok (.aload_n 1, 1) := by decide +kernel
theorem d_Log_copyFrom_30 : decode b_Log_copyFrom 30 = .ok (.getfield 35, 3) := by decide +kernel
theorem d_Log_copyFrom_33 : decode b_Log_copyFrom 33 = .ok (.putfield 35, 3) := by decide +kernel
theorem d_Log_copyFrom_36 : decode b_Log_copyFrom 36 = .ok (.iconst 0, 1) := by decide +kernel
theorem d_Log_copyFrom_37 : decode b_Log_copyFrom 37 = .ok (.istore_n 2, 1) := by decide +kernel
theorem d_Log_copyFrom_38 : decode b_Log_copyFrom 38 = .ok (.iload_n 2, 1) := by decide +kernel
theorem d_Log_copyFrom_39 : decode b_Log_copyFrom 39 = .ok (.bipush 9, 2) := by decide +kernel
theorem d_Log_copyFrom_41 : decode b_Log_copyFrom 41 = .ok (.if_icmp .gt 21, 3) := by decide +kernel
theorem d_Log_copyFrom_44 : decode b_Log_copyFrom 44 = .ok (.aload_n 0, 1) := by decide +kernel
theorem d_Log_copyFrom_45 : decode b_Log_copyFrom 45 = .ok (.getfield 22, 3) := by decide +kernel
theorem d_Log_copyFrom_48 : decode b_Log_copyFrom 48 = .ok (.iload_n 2, 1) := by decide +kernel
theorem d_Log_copyFrom_49 : decode b_Log_copyFrom 49 = .ok (.aload_n 1, 1) := by decide +kernel
theorem d_Log_copyFrom_50 : decode b_Log_copyFrom 50 = .ok (.getfield 22, 3) := by decide +kernel
theorem d_Log_copyFrom_53 : decode b_Log_copyFrom 53 = .ok (.iload_n 2, 1) := by decide +kernel
theorem d_Log_copyFrom_54 : decode b_Log_copyFrom 54 = .ok (.iaload, 1) := by decide +kernel
theorem d_Log_copyFrom_55 : decode b_Log_copyFrom 55 = .ok (.iastore, 1) := by decide +kernel
theorem d_Log_copyFrom_56 : decode b_Log_copyFrom 56 = .ok (.iinc 2 1, 3) := by decide +kernel
theorem d_Log_copyFrom_59 : decode b_Log_copyFrom 59 = .ok (.goto (-21), 3) := by decide +kernel
theorem d_Log_copyFrom_62 : decode b_Log_copyFrom 62 = .ok (.return_, 1) := by decide +kernel
theorem d_Log_enter_0 : decode b_Log_enter 0 = .ok (.aload_n 0, 1) := by decide +kernel
theorem d_Log_enter_1 : decode b_Log_enter 1 = .ok (.iload_n 1, 1) := by decide +kernel
theorem d_Log_enter_2 : decode b_Log_enter 2 = .ok (.putfield 15, 3) := by decide +kernel
theorem d_Log_enter_5 : decode b_Log_enter 5 = .ok (.aload_n 0, 1) := by decide +kernel
theorem d_Log_enter_6 : decode b_Log_enter 6 = .ok (.getfield 22, 3) := by decide +kernel
theorem d_Log_enter_9 : decode b_Log_enter 9 = .ok (.iload_n 1, 1) := by decide +kernel
theorem d_Log_enter_10 : decode b_Log_enter 10 = .ok (.iload_n 2, 1) := by decide +kernel
theorem d_Log_enter_11 : decode b_Log_enter 11 = .ok (.iastore, 1) := by decide +kernel
theorem d_Log_enter_12 : decode b_Log_enter 12 = .ok (.aload_n 0, 1) := by decide +kernel
theorem d_Log_enter_13 : decode b_Log_enter 13 = .ok (.iload_n 3, 1) := by decide +kernel
theorem d_Log_enter_14 : decode b_Log_enter 14 = .ok (.putfield 19, 3) := by decide +kernel
theorem d_Log_enter_17 : decode b_Log_enter 17 = .ok (.return_, 1) := by decide +kernel
