theorem d_Master_sendResult_0 : decode b_Master_sendResult 0 = .ok (.aload 4, 2) := by decide +kernel
theorem d_Master_sendResult_2 : decode b_Master_sendResult 2 = .ok (.bipush 8, 2) := by decide +kernel
theorem d_Master_sendResult_4 : decode b_Master_sendResult 4 = .ok (.iload_n 1, 1) := by decide +kernel
theorem d_Master_sendResult_5 : decode b_Master_sendResult 5 = .ok (.aload_n 0, 1) := by decide +kernel
theorem d_Master_sendResult_6 : decode b_Master_sendResult 6 = .ok (.getfield 27, 3) := by decide +kernel
theorem d_Master_sendResult_9 : decode b_Master_sendResult 9 = .ok (.invokevirtual 91, 3) := by decide +kernel
theorem d_Master_sendResult_12 : decode b_Master_sendResult 12 = .ok (.astore 5, 2) := by decide +kernel
theorem d_Master_sendResult_14 : decode b_Master_sendResult 14 = .ok (.aload 5, 2) := by decide +kernel
theorem d_Master_sendResult_16 : decode b_Master_sendResult 16 = .ok (.iload_n 2, 1) := by decide +kernel
theorem d_Master_sendResult_17 : decode b_Master_sendResult 17 = .ok (.putfield 85, 3) := by decide +kernel
theorem d_Master_sendResult_20 : decode b_Master_sendResult 20 = .ok (.aload 5, 2) := by decide +kernel
theorem d_Master_sendResult_22 : decode b_Master_sendResult 22 = .ok (.iload_n 3, 1) := by decide +kernel
theorem d_Master_sendResult_23 : decode b_Master_sendResult 23 = .ok (.putfield 177, 3) := by decide +kernel
theorem d_Master_sendResult_26 : decode b_Master_sendResult 26 = .ok (.aload 5, 2) := by decide +kernel
theorem d_Master_sendResult_28 : decode b_Master_sendResult 28 = .ok (.areturn, 1) := by decide +kernel
theorem d_Master_findsConflict_0 : decode b_Master_findsConflict 0 = .ok (.iload_n 1, 1) := by decide +kernel
theorem d_Master_findsConflict_1 : decode b_Master_findsConflict 1 = .ok (.iconst 4, 1) := by decide +kernel
theorem d_Master_findsConflict_2 : decode b_Master_findsConflict 2 = .ok (.imul, 1) := by decide +kernel
theorem d_Master_findsConflict_3 : decode b_Master_findsConflict 3 = .ok (.istore_n 3, 1) := by decide +kernel
theorem d_Master_findsConflict_4 : decode b_Master_findsConflict 4 = .ok (.iload_n 3, 1) := by decide +kernel
theorem d_Master_findsConflict_5 : decode b_Master_findsConflict 5 = .ok (.iload_n 1, 1) := by decide +kernel
theorem d_Master_findsConflict_6 : decode b_Master_findsConflict 6 = .ok (.iconst 1, 1) := by decide +kernel
theorem d_Master_findsConflict_7 : decode b_Master_findsConflict 7 = .ok (.iadd, 1) := by decide +kernel
theorem d_Master_findsConflict_8 : decode b_Master_findsConflict 8 = .ok (.iconst 4, 1) := by decide +kernel
theorem d_Master_findsConflict_9 : decode b_Master_findsConflict 9 = .ok (.imul, 1) := by decide +kernel
theorem d_Master_findsConflict_10 : decode b_Master_findsConflict 10 = .ok (.if_icmp .ge 35, 3) := by decide +kernel
theorem d_Master_findsConflict_13 : decode b_Master_findsConflict 13 = .ok (.aload_n 2, 1) := by decide +kernel
theorem d_Master_findsConflict_14 : decode b_Master_findsConflict 14 = .ok (.getfield 146, 3) := by decide +kernel
theorem d_Master_findsConflict_17 : decode b_Master_findsConflict 17 = .ok (.iconst 1, 1) := by decide +kernel
theorem d_Master_findsConflict_18 : decode b_Master_findsConflict 18 = .ok (.iload_n 3, 1) := by decide +kernel
theorem d_Master_findsConflict_19 : decode b_Master_findsConflict 19 = .ok (.ishl, 1) := by decide +kernel
theorem d_Master_findsConflict_20 : decode b_Master_findsConflict 20 = .ok (.iand, 1) := by decide +kernel
theorem d_Master_findsConflict_21 : decode b_Master_findsConflict 21 = .ok (.ifCond .eq 18, 3) := by decide +kernel
theorem d_Master_findsConflict_24 : decode b_Master_findsConflict 24 = .ok (.aload_n 0, 1) := by decide +kernel
theorem d_Master_findsConflict_25 : decode b_Master_findsConflict 25 = .ok (.getfield 9, 3) := by decide +kernel
theorem d_Master_findsConflict_28 : decode b_Master_findsConflict 28 = .ok (.iload_n 3, 1) := by decide +kernel
theorem d_Master_findsConflict_29 : decode b_Master_findsConflict 29 = .ok (.iaload, 1) := by decide +kernel
theorem d_Master_findsConflict_30 : decode b_Master_findsConflict 30 = .ok (.aload_n 2, 1) := by decide +kernel
theorem d_Master_findsConflict_31 : decode b_Master_findsConflict 31 = .ok (.getfield 120, 3) := by decide +kernel
theorem d_Master_findsConflict_34 : decode b_Master_findsConflict 34 = .ok (.if_icmp .le 5, 3) := by decide +kernel
theorem d_Master_findsConflict_37 : decode b_Master_findsConflict 37 = .ok (.iconst 1, 1) := by decide +kernel
theorem d_Master_findsConflict_38 : decode b_Master_findsConflict 38 = .ok (.ireturn, 1) := by decide +kernel
theorem d_Master_findsConflict_39 : decode b_Master_findsConflict 39 = .ok (.iinc 3 1, 3) := by decide +kernel
theorem d_Master_findsConflict_42 : decode b_Master_findsConflict 42 = .ok (.goto (-38), 3) := by decide +kernel
theorem d_Master_findsConflict_45 : decode b_Master_findsConflict 45 = .ok (.iconst 0, 1) := by decide +kernel
theorem d_Master_findsConflict_46 : decode b_Master_findsConflict 46 = .ok (.ireturn, 1) := by decide +kernel
theorem d_Master_letPass_0 : decode b_Master_letPass 0 = .ok (.iload_n 1, 1) := by decide +kernel
theorem d_Master_letPass_1 : decode b_Master_letPass 1 = .ok (.iconst 4, 1) := by decide +kernel
theorem d_Master_letPass_2 : decode b_Master_letPass 2 = .ok (.imul, 1) := by decide +kernel
theorem d_Master_letPass_3 : decode b_Master_letPass 3 = .ok (.istore_n 3, 1) := by decide +kernel
theorem d_Master_letPass_4 : decode b_Master_letPass 4 = .ok (.iload_n 3, 1) := by decide +kernel
theorem d_Master_letPass_5 : decode b_Master_letPass 5 = .ok (.iload_n 1, 1) := by decide +kernel
theorem d_Master_letPass_6 : decode b_Master_letPass 6 = .ok (.iconst 1, 1) := by decide +kernel
theorem d_Master_letPass_7 : decode b_Master_letPass 7 = .ok (.iadd, 1) := by decide +kernel
theorem d_Master_letPass_8 : decode b_Master_letPass 8 = .ok (.iconst 4, 1) := by decide +kernel
theorem d_Master_letPass_9 : decode b_Master_letPass 9 = .ok (.imul, 1) := by decide +kernel
theorem d_Master_letPass_10 : decode b_Master_letPass 10 = .ok (.if_icmp .ge 27, 3) := by decide +kernel
theorem d_Master_letPass_13 : decode b_Master_letPass 13 = .ok (.aload_n 2, 1) := by decide +kernel
theorem d_Master_letPass_14 : decode b_Master_letPass 14 = .ok (.iload_n 3, 1) := by decide +kernel
theorem d_Master_letPass_15 : decode b_Master_letPass 15 = .ok (.invokevirtual 149, 3) := by decide +kernel
theorem d_Master_letPass_18 : decode b_Master_letPass 18 = .ok (.ifCond .eq 13, 3) := by decide +kernel
theorem d_Master_letPass_21 : decode b_Master_letPass 21 = .ok (.aload_n 0, 1) := by decide +kernel
theorem d_Master_letPass_22 : decode b_Master_letPass 22 = .ok (.getfield 9, 3) := by decide +kernel
theorem d_Master_letPass_25 : decode b_Master_letPass 25 = .ok (.iload_n 3, 1) := by decide +kernel
theorem d_Master_letPass_26 : decode b_Master_letPass 26 = .ok (.aload_n 0, 1) := by decide +kernel
theorem d_Master_letPass_27 : decode b_Master_letPass 27 = .ok (.getfield 37, 3) := by decide +kernel
theorem d_Master_letPass_30 : decode b_Master_letPass 30 = .ok (.iastore, 1) := by decide +kernel
theorem d_Master_letPass_31 : decode b_Master_letPass 31 = .ok (.iinc 3 1, 3) := by decide +kernel
theorem d_Master_letPass_34 : decode b_Master_letPass 34 = .ok (.goto (-30), 3) := by decide +kernel
theorem d_Master_letPass_37 : decode b_Master_letPass 37 = .ok (.return_, 1) := by decide +kernel
theorem d_Master_passesResolvers_0 : decode b_Master_passesResolvers 0 = .ok (.iconst 1, 1) := by decide +kernel
theorem d_Master_passesResolvers_1 : decode b_Master_passesResolvers 1 = .ok (.istore_n 2, 1) := by decide +kernel
theorem d_Master_passesResolvers_2 : decode b_Master_passesResolvers 2 = .ok (.iconst 0, 1) := by decide +kernel
theorem d_Master_passesResolvers_3 : decode b_Master_passesResolvers 3 = .ok (.istore_n 3, 1) := by decide +kernel
theorem d_Master_passesResolvers_4 : decode b_Master_passesResolvers 4 = .ok (.iload_n 3, 1) := by decide +kernel
theorem d_Master_passesResolvers_5 : decode b_Master_passesResolvers 5 = .ok (.iconst 2, 1) := by decide +kernel
theorem d_Master_passesResolvers_6 : decode b_Master_passesResolvers 6 = .ok (.if_icmp .ge 32, 3) := by decide +kernel
theorem d_Master_passesResolvers_9 : decode b_Master_passesResolvers 9 = .ok (.aload_n 0, 1) := by decide +kernel
theorem d_Master_passesResolvers_10 : decode b_Master_passesResolvers 10 = .ok (.iload_n 3, 1) := by decide +kernel
theorem d_Master_passesResolvers_11 : decode b_Master_passesResolvers 11 = .ok (.aload_n 1, 1) := by decide +kernel
theorem d_Master_passesResolvers_12 : decode b_Master_passesResolvers 12 = .ok (.invokevirtual 134, 3) := by decide +kernel
theorem d_Master_passesResolvers_15 : decode b_Master_passesResolvers 15 = .ok (.ifCond .eq 8, 3) := by decide +kernel
theorem d_Master_passesResolvers_18 : decode b_Master_passesResolvers 18 = .ok (.iconst 0, 1) := by decide +kernel
theorem d_Master_passesResolvers_19 : decode b_Master_passesResolvers 19 = .ok (.istore_n 2, 1) := by decide +kernel
theorem d_Master_passesResolvers_20 : decode b_Master_passesResolvers 20 = .ok (.goto 12, 3) := by decide +kernel
theorem d_Master_passesResolvers_23 : decode b_Master_passesResolvers 23 = .ok (.aload_n 0, 1) := by decide +kernel
theorem d_Master_passesResolvers_24 : decode b_Master_passesResolvers 24 = .ok (.iload_n 3, 1) := by decide +kernel
theorem d_Master_passesResolvers_25 : decode b_Master_passesResolvers 25 = .ok (.aload_n 1, 1) := by decide +kernel
theorem d_Master_passesResolvers_26 : decode b_Master_passesResolvers 26 = .ok (.getfield 138, 3) := by decide +kernel
theorem d_Master_passesResolvers_29 : decode b_Master_passesResolvers 29 = .ok (.invokevirtual 142, 3) := by decide +kernel
theorem d_Master_passesResolvers_32 : decode b_Master_passesResolvers 32 = .ok (.iinc 3 1, 3) := by decide +kernel
theorem d_Master_passesResolvers_35 : decode b_Master_passesResolvers 35 = .ok (.goto (-31), 3) := by decide +kernel
theorem d_Master_passesResolvers_38 : decode b_Master_passesResolvers 38 = .ok (.iload_n 2, 1) := by decide +kernel
theorem d_Master_passesResolvers_39 : decode b_Master_passesResolvers 39 = .ok (.ireturn, 1) := by decide +kernel
theorem d_Entry_init_0 : decode b_Entry_init 0 = .ok (.aload_n 0, 1) := by decide +kernel
theorem d_Entry_init_1 : decode b_Entry_init 1 = .ok (.invokespecial 1, 3) := by decide +kernel
theorem d_Entry_init_4 : decode b_Entry_init 4 = .ok (.aload_n 0, 1) := by decide +kernel
theorem d_Entry_init_5 : decode b_Entry_init 5 = .ok (.iload_n 1, 1) := by decide +kernel
theorem d_Entry_init_6 : decode b_Entry_init 6 = .ok (.putfield 7, 3) := by decide +kernel
theorem d_Entry_init_9 : decode b_Entry_init 9 = .ok (.aload_n 0, 1) := by decide +kernel
theorem d_Entry_init_10 : decode b_Entry_init 10 = .ok (.iload_n 2, 1) := by decide +kernel
theorem d_Entry_init_11 : decode b_Entry_init 11 = .ok (.putfield 13, 3) := by decide +kernel
theorem d_Entry_init_14 : decode b_Entry_init 14 = .ok (.aload_n 0, 1) := by decide +kernel
theorem d_Entry_init_15 : decode b_Entry_init 15 = .ok (.aload_n 3, 1) := by decide +kernel
theorem d_Entry_init_16 : decode b_Entry_init 16 = .ok (.putfield 16, 3) := by decide +kernel
theorem d_Entry_init_19 : decode b_Entry_init 19 = .ok (.return_, 1) := by decide +kernel
theorem d_OnWay_init_0 : decode b_OnWay_init 0 = .ok (.aload_n 0, 1) := by decide +kernel
theorem d_OnWay_init_1 : decode b_OnWay_init 1 = .ok (.invokespecial 1, 3) := by decide +kernel
theorem d_OnWay_init_4 : decode b_OnWay_init 4 = .ok (.aload_n 0, 1) := by decide +kernel
theorem d_OnWay_init_5 : decode b_OnWay_init 5 = .ok (.aload_n 1, 1) := by decide +kernel
theorem d_OnWay_init_6 : decode b_OnWay_init 6 = .ok (.putfield 7, 3) := by decide +kernel
theorem d_OnWay_init_9 : decode b_OnWay_init 9 = .ok (.aload_n 0, 1) := by decide +kernel
theorem d_OnWay_init_10 : decode b_OnWay_init 10 = .ok (.iload_n 2, 1) := by decide +kernel
theorem d_OnWay_init_11 : decode b_OnWay_init 11 = .ok (.putfield 13, 3) := by decide +kernel
theorem d_OnWay_init_14 : decode b_OnWay_init 14 = .ok (.aload_n 0, 1) := by decide +kernel
theorem d_OnWay_init_15 : decode b_OnWay_init 15 = .ok (.iload_n 3, 1) := by decide +kernel
theorem d_OnWay_init_16 : decode b_OnWay_init 16 = .ok (.putfield 17, 3) := by decide +kernel
theorem d_OnWay_init_19 : decode b_OnWay_init 19 = .ok (.return_, 1) := by decide +kernel
theorem d_Master_pushToOthers_0 : decode b_Master_pushToOthers 0 = .ok (.iconst 0, 1) := by decide +kernel
theorem d_Master_pushToOthers_1 : decode b_Master_pushToOthers 1 = .ok (.istore_n 3, 1) := by decide +kernel
theorem d_Master_pushToOthers_2 : decode b_Master_pushToOthers 2 = .ok (.iconst 0, 1) := by decide +kernel
theorem d_Master_pushToOthers_3 : decode b_Master_pushToOthers 3 = .ok (.istore 4, 2) := by decide +kernel
theorem d_Master_pushToOthers_5 : decode b_Master_pushToOthers 5 = .ok (.iload 4, 2) := by decide +kernel
theorem d_Master_pushToOthers_7 : decode b_Master_pushToOthers 7 = .ok (.iconst 3, 1) := by decide +kernel
theorem d_Master_pushToOthers_8 : decode b_Master_pushToOthers 8 = .ok (.if_icmp .ge 66, 3) := by decide +kernel
theorem d_Master_pushToOthers_11 : decode b_Master_pushToOthers 11 = .ok (.aload_n 0, 1) := by decide +kernel
theorem d_Master_pushToOthers_12 : decode b_Master_pushToOthers 12 = .ok (.getfield 31, 3) := by decide +kernel
theorem d_Master_pushToOthers_15 : decode b_Master_pushToOthers 15 = .ok (.aload_n 1, 1) := by decide +kernel
theorem d_Master_pushToOthers_16 : decode b_Master_pushToOthers 16 = .ok (.getfield 163, 3) := by decide +kernel
theorem d_Master_pushToOthers_19 : decode b_Master_pushToOthers 19 = .ok (.iconst (-1), 1) := by decide +kernel
theorem d_Master_pushToOthers_20 : decode b_Master_pushToOthers 20 = .ok (.ixor, 1) := by decide +kernel
theorem d_Master_pushToOthers_21 : decode b_Master_pushToOthers 21 = .ok (.iand, 1) := by decide +kernel
theorem d_Master_pushToOthers_22 : decode b_Master_pushToOthers 22 = .ok (.iconst 1, 1) := by decide +kernel
theorem d_Master_pushToOthers_23 : decode b_Master_pushToOthers 23 = .ok (.iload 4, 2) := by decide +kernel
theorem d_Master_pushToOthers_25 : decode b_Master_pushToOthers 25 = .ok (.ishl, 1) := by decide +kernel
theorem d_Master_pushToOthers_26 : decode b_Master_pushToOthers 26 = .ok (.iand, 1) := by decide +kernel
theorem d_Master_pushToOthers_27 : decode b_Master_pushToOthers 27 = .ok (.ifCond .eq 41, 3) := by decide +kernel
theorem d_Master_pushToOthers_30 : decode b_Master_pushToOthers 30 = .ok (.aload_n 2, 1) := by decide +kernel
theorem d_Master_pushToOthers_31 : decode b_Master_pushToOthers 31 = .ok (.bipush 6, 2) := by decide +kernel
theorem d_Master_pushToOthers_33 : decode b_Master_pushToOthers 33 = .ok (.iload 4, 2) := by decide +kernel
theorem d_Master_pushToOthers_35 : decode b_Master_pushToOthers 35 = .ok (.aload_n 0, 1) := by decide +kernel
theorem d_Master_pushToOthers_36 : decode b_Master_pushToOthers 36 = .ok (.getfield 27, 3) := by decide +kernel
theorem d_Master_pushToOthers_39 : decode b_Master_pushToOthers 39 = .ok (.invokevirtual 91, 3) := by decide +kernel
theorem d_Master_pushToOthers_42 : decode b_Master_pushToOthers 42 = .ok (.astore 5, 2) := by decide +kernel
theorem d_Master_pushToOthers_44 : decode b_Master_pushToOthers 44 = .ok (.aload 5, 2) := by decide +kernel
theorem d_Master_pushToOthers_46 : decode b_Master_pushToOthers 46 = .ok (.aload_n 1, 1) := by decide +kernel
theorem d_Master_pushToOthers_47 : decode b_Master_pushToOthers 47 = .ok (.getfield 166, 3) := by decide +kernel
theorem d_Master_pushToOthers_50 : decode b_Master_pushToOthers 50 = .ok (.getfield 170, 3) := by decide +kernel
theorem d_Master_pushToOthers_53 : decode b_Master_pushToOthers 53 = .ok (.putfield 120, 3) := by decide +kernel
theorem d_Master_pushToOthers_56 : decode b_Master_pushToOthers 56 = .ok (.aload 5, 2) := by decide +kernel
theorem d_Master_pushToOthers_58 : decode b_Master_pushToOthers 58 = .ok (.aload_n 1, 1) := by decide +kernel
theorem d_Master_pushToOthers_59 : decode b_Master_pushToOthers 59 = .ok (.getfield 166, 3) := by decide +kernel
theorem d_Master_pushToOthers_62 : decode b_Master_pushToOthers 62 = .ok (.putfield 171, 3) := by decide +kernel
theorem d_Master_pushToOthers_65 : decode b_Master_pushToOthers 65 = .ok (.iinc 3 1, 3) := by decide +kernel
theorem d_Master_pushToOthers_68 : decode b_Master_pushToOthers 68 = .ok (.iinc 4 1, 3) := by decide +kernel
theorem d_Master_pushToOthers_71 : decode b_Master_pushToOthers 71 = .ok (.goto (-66), 3) := by decide +kernel
theorem d_Master_pushToOthers_74 : decode b_Master_pushToOthers 74 = .ok (.iload_n 3, 1) := by decide +kernel
theorem d_Master_pushToOthers_75 : decode b_Master_pushToOthers 75 = .ok (.ireturn, 1) := by decide +kernel
theorem d_Master_putOnWay_0 : decode b_Master_putOnWay 0 = .ok (.new 21, 3) := by decide +kernel
theorem d_Master_putOnWay_3 : decode b_Master_putOnWay 3 = .ok (.dup, 1) := by decide +kernel
theorem d_Master_putOnWay_4 : decode b_Master_putOnWay 4 = .ok (.new 155, 3) := by decide +kernel
theorem d_Master_putOnWay_7 : decode b_Master_putOnWay 7 = .ok (.dup, 1) := by decide +kernel
theorem d_Master_putOnWay_8 : decode b_Master_putOnWay 8 = .ok (.aload_n 0, 1) := by decide +kernel
theorem d_Master_putOnWay_9 : decode b_Master_putOnWay 9 = .ok (.getfield 37, 3) := by decide +kernel
theorem d_Master_putOnWay_12 : decode b_Master_putOnWay 12 = .ok (.aload_n 0, 1) := by decide +kernel
theorem d_Master_putOnWay_13 : decode b_Master_putOnWay 13 = .ok (.getfield 40, 3) := by decide +kernel
theorem d_Master_putOnWay_16 : decode b_Master_putOnWay 16 = .ok (.aload_n 1, 1) := by decide +kernel
theorem d_Master_putOnWay_17 : decode b_Master_putOnWay 17 = .ok (.getfield 138, 3) := by decide +kernel
theorem d_Master_putOnWay_20 : decode b_Master_putOnWay 20 = .ok (.invokespecial 157, 3) := by decide +kernel
theorem d_Master_putOnWay_23 : decode b_Master_putOnWay 23 = .ok (.aload_n 1, 1) := by decide +kernel
theorem d_Master_putOnWay_24 : decode b_Master_putOnWay 24 = .ok (.getfield 82, 3) := by decide +kernel
theorem d_Master_putOnWay_27 : decode b_Master_putOnWay 27 = .ok (.aload_n 1, 1) := by decide +kernel
theorem d_Master_putOnWay_28 : decode b_Master_putOnWay 28 = .ok (.getfield 85, 3) := by decide +kernel
theorem d_Master_putOnWay_31 : decode b_Master_putOnWay 31 = .ok (.invokespecial 160, 3) := by decide +kernel
theorem d_Master_putOnWay_34 : decode b_Master_putOnWay 34 = .ok (.astore_n 3, 1) := by decide +kernel
theorem d_Master_putOnWay_35 : decode b_Master_putOnWay 35 = .ok (.aload_n 0, 1) := by decide +kernel
theorem d_Master_putOnWay_36 : decode b_Master_putOnWay 36 = .ok (.getfield 23, 3) := by decide +kernel
theorem d_Master_putOnWay_39 : decode b_Master_putOnWay 39 = .ok (.aload_n 0, 1) := by decide +kernel
theorem d_Master_putOnWay_40 : decode b_Master_putOnWay 40 = .ok (.getfield 49, 3) := by decide +kernel
theorem d_Master_putOnWay_43 : decode b_Master_putOnWay 43 = .ok (.aload_n 3, 1) := by decide +kernel
theorem d_Master_putOnWay_44 : decode b_Master_putOnWay 44 = .ok (.aastore, 1) := by decide +kernel
theorem d_Master_putOnWay_45 : decode b_Master_putOnWay 45 = .ok (.aload_n 0, 1) := by decide +kernel
theorem d_Master_putOnWay_46 : decode b_Master_putOnWay 46 = .ok (.dup, 1) := by decide +kernel
theorem d_Master_putOnWay_47 : decode b_Master_putOnWay 47 = .ok (.getfield 49, 3) := by decide +kernel
theorem d_Master_putOnWay_50 : decode b_Master_putOnWay 50 = .ok (.iconst 1, 1) := by decide +kernel
theorem d_Master_putOnWay_51 : decode b_Master_putOnWay 51 = .ok (.iadd, 1) := by decide +kernel
theorem d_Master_putOnWay_52 : decode b_Master_putOnWay 52 = .ok (.putfield 49, 3) := by decide +kernel
theorem d_Master_putOnWay_55 : decode b_Master_putOnWay 55 = .ok (.aload_n 0, 1) := by decide +kernel
theorem d_Master_putOnWay_56 : decode b_Master_putOnWay 56 = .ok (.aload_n 3, 1) := by decide +kernel
theorem d_Master_putOnWay_57 : decode b_Master_putOnWay 57 = .ok (.aload_n 2, 1) := by decide +kernel
theorem d_Master_putOnWay_58 : decode b_Master_putOnWay 58 = .ok (.invokevirtual 75, 3) := by decide +kernel
theorem d_Master_putOnWay_61 : decode b_Master_putOnWay 61 = .ok (.pop, 1) := by decide +kernel
theorem d_Master_putOnWay_62 : decode b_Master_putOnWay 62 = .ok (.aload_n 0, 1) := by decide +kernel
theorem d_Master_putOnWay_63 : decode b_Master_putOnWay 63 = .ok (.aload_n 0, 1) := by decide +kernel
theorem d_Master_putOnWay_64 : decode b_Master_putOnWay 64 = .ok (.getfield 37, 3) := by decide +kernel
theorem d_Master_putOnWay_67 : decode b_Master_putOnWay 67 = .ok (.putfield 40, 3) := by decide +kernel
theorem d_Master_putOnWay_70 : decode b_Master_putOnWay 70 = .ok (.return_, 1) := by decide +kernel
theorem d_Master_decide_0 : decode b_Master_decide 0 = .ok (.aload_n 0, 1) := by decide +kernel
theorem d_Master_decide_1 : decode b_Master_decide 1 = .ok (.getfield 49, 3) := by decide +kernel
theorem d_Master_decide_4 : decode b_Master_decide 4 = .ok (.bipush 8, 2) := by decide +kernel
theorem d_Master_decide_6 : decode b_Master_decide 6 = .ok (.if_icmp .lt 4, 3) := by decide +kernel
theorem d_Master_decide_9 : decode b_Master_decide 9 = .ok (.return_, 1) := by decide +kernel
theorem d_Master_decide_10 : decode b_Master_decide 10 = .ok (.aload_n 1, 1) := by decide +kernel
theorem d_Master_decide_11 : decode b_Master_decide 11 = .ok (.getfield 120, 3) := by decide +kernel
theorem d_Master_decide_14 : decode b_Master_decide 14 = .ok (.aload_n 0, 1) := by decide +kernel
theorem d_Master_decide_15 : decode b_Master_decide 15 = .ok (.getfield 34, 3) := by decide +kernel
theorem d_Master_decide_18 : decode b_Master_decide 18 = .ok (.if_icmp .lt 17, 3) := by decide +kernel
theorem d_Master_decide_21 : decode b_Master_decide 21 = .ok (.aload_n 1, 1) := by decide +kernel
theorem d_Master_decide_22 : decode b_Master_decide 22 = .ok (.getfield 120, 3) := by decide +kernel
theorem d_Master_decide_25 : decode b_Master_decide 25 = .ok (.aload_n 0, 1) := by decide +kernel
theorem d_Master_decide_26 : decode b_Master_decide 26 = .ok (.getfield 37, 3) := by decide +kernel
theorem d_Master_decide_29 : decode b_Master_decide 29 = .ok (.bipush 12, 2) := by decide +kernel
theorem d_Master_decide_31 : decode b_Master_decide 31 = .ok (.isub, 1) := by decide +kernel
theorem d_Master_decide_32 : decode b_Master_decide 32 = .ok (.if_icmp .ge 20, 3) := by decide +kernel
theorem d_Master_decide_35 : decode b_Master_decide 35 = .ok (.aload_n 0, 1) := by decide +kernel
theorem d_Master_decide_36 : decode b_Master_decide 36 = .ok (.aload_n 1, 1) := by decide +kernel
theorem d_Master_decide_37 : decode b_Master_decide 37 = .ok (.getfield 82, 3) := by decide +kernel
theorem d_Master_decide_40 : decode b_Master_decide 40 = .ok (.aload_n 1, 1) := by decide +kernel
theorem d_Master_decide_41 : decode b_Master_decide 41 = .ok (.getfield 85, 3) := by decide +kernel
theorem d_Master_decide_44 : decode b_Master_decide 44 = .ok (.bipush 6, 2) := by decide +kernel
theorem d_Master_decide_46 : decode b_Master_decide 46 = .ok (.aload_n 2, 1) := by decide +kernel
theorem d_Master_decide_47 : decode b_Master_decide 47 = .ok (.invokevirtual 123, 3) := by decide +kernel
theorem d_Master_decide_50 : decode b_Master_decide 50 = .ok (.pop, 1) := by decide +kernel
theorem d_Master_decide_51 : decode b_Master_decide 51 = .ok (.return_, 1) := by decide +kernel
theorem d_Master_decide_52 : decode b_Master_decide 52 = .ok (.aload_n 0, 1) := by decide +kernel
theorem d_Master_decide_53 : decode b_Master_decide 53 = .ok (.dup, 1) := by decide +kernel
theorem d_Master_decide_54 : decode b_Master_decide 54 = .ok (.getfield 37, 3) := by decide +kernel
theorem d_Master_decide_57 : decode b_Master_decide 57 = .ok (.iconst 1, 1) := by decide +kernel
theorem d_Master_decide_58 : decode b_Master_decide 58 = .ok (.iadd, 1) := by decide +kernel
theorem d_Master_decide_59 : decode b_Master_decide 59 = .ok (.putfield 37, 3) := by decide +kernel
theorem d_Master_decide_62 : decode b_Master_decide 62 = .ok (.aload_n 0, 1) := by decide +kernel
theorem d_Master_decide_63 : decode b_Master_decide 63 = .ok (.aload_n 1, 1) := by decide +kernel
theorem d_Master_decide_64 : decode b_Master_decide 64 = .ok (.invokevirtual 127, 3) := by decide +kernel
theorem d_Master_decide_67 : decode b_Master_decide 67 = .ok (.ifCond .eq 12, 3) := by decide +kernel
theorem d_Master_decide_70 : decode b_Master_decide 70 = .ok (.aload_n 0, 1) := by decide +kernel
theorem d_Master_decide_71 : decode b_Master_decide 71 = .ok (.aload_n 1, 1) := by decide +kernel
theorem d_Master_decide_72 : decode b_Master_decide 72 = .ok (.aload_n 2, 1) := by decide +kernel
theorem d_Master_decide_73 : decode b_Master_decide 73 = .ok (.invokevirtual 131, 3) := by decide +kernel
theorem d_Master_decide_76 : decode b_Master_decide 76 = .ok (.goto 18, 3) := by decide +kernel
theorem d_Master_decide_79 : decode b_Master_decide 79 = .ok (.aload_n 0, 1) := by decide +kernel
theorem d_Master_decide_80 : decode b_Master_decide 80 = .ok (.aload_n 1, 1) := by decide +kernel
theorem d_Master_decide_81 : decode b_Master_decide 81 = .ok (.getfield 82, 3) := by decide +kernel
theorem d_Master_decide_84 : decode b_Master_decide 84 = .ok (.aload_n 1, 1) := by decide +kernel
theorem d_Master_decide_85 : decode b_Master_decide 85 = .ok (.getfield 85, 3) := by decide +kernel
theorem d_Master_decide_88 : decode b_Master_decide 88 = .ok (.iconst 5, 1) := by decide +kernel
theorem d_Master_decide_89 : decode b_Master_decide 89 = .ok (.aload_n 2, 1) := by decide +kernel
theorem d_Master_decide_90 : decode b_Master_decide 90 = .ok (.invokevirtual 123, 3) := by decide +kernel
theorem d_Master_decide_93 : decode b_Master_decide 93 = .ok (.pop, 1) := by decide +kernel
theorem d_Master_decide_94 : decode b_Master_decide 94 = .ok (.return_, 1) := by decide +kernel
