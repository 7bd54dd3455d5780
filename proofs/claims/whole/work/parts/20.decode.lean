theorem d_ES_range_0 : decode b_ES_range 0 = .ok (.aload_n 0, 1) := by decide +kernel
theorem d_ES_range_1 : decode b_ES_range 1 = .ok (.iload_n 1, 1) := by decide +kernel
theorem d_ES_range_2 : decode b_ES_range 2 = .ok (.invokevirtual 75, 3) := by decide +kernel
theorem d_ES_range_5 : decode b_ES_range 5 = .ok (.ifCond .eq 22, 3) := by decide +kernel
theorem d_ES_range_8 : decode b_ES_range 8 = .ok (.iload_n 2, 1) := by decide +kernel
theorem d_ES_range_9 : decode b_ES_range 9 = .ok (.invokestatic 78, 3) := by decide +kernel
theorem d_ES_range_12 : decode b_ES_range 12 = .ok (.ifCond .eq 15, 3) := by decide +kernel
theorem d_ES_range_15 : decode b_ES_range 15 = .ok (.iload_n 3, 1) := by decide +kernel
theorem d_ES_range_16 : decode b_ES_range 16 = .ok (.invokestatic 78, 3) := by decide +kernel
theorem d_ES_range_19 : decode b_ES_range 19 = .ok (.ifCond .eq 8, 3) := by decide +kernel
theorem d_ES_range_22 : decode b_ES_range 22 = .ok (.iload_n 2, 1) := by decide +kernel
theorem d_ES_range_23 : decode b_ES_range 23 = .ok (.iload_n 3, 1) := by decide +kernel
theorem d_ES_range_24 : decode b_ES_range 24 = .ok (.if_icmp .le 7, 3) := by decide +kernel
theorem d_ES_range_27 : decode b_ES_range 27 = .ok (.ldc2_w 81, 3) := by decide +kernel
theorem d_ES_range_30 : decode b_ES_range 30 = .ok (.lreturn, 1) := by decide +kernel
theorem d_ES_range_31 : decode b_ES_range 31 = .ok (.iconst 0, 1) := by decide +kernel
theorem d_ES_range_32 : decode b_ES_range 32 = .ok (.istore 4, 2) := by decide +kernel
theorem d_ES_range_34 : decode b_ES_range 34 = .ok (.iload_n 2, 1) := by decide +kernel
theorem d_ES_range_35 : decode b_ES_range 35 = .ok (.istore 5, 2) := by decide +kernel
theorem d_ES_range_37 : decode b_ES_range 37 = .ok (.iload 5, 2) := by decide +kernel
theorem d_ES_range_39 : decode b_ES_range 39 = .ok (.iload_n 3, 1) := by decide +kernel
theorem d_ES_range_40 : decode b_ES_range 40 = .ok (.if_icmp .gt 44, 3) := by decide +kernel
theorem d_ES_range_43 : decode b_ES_range 43 = .ok (.aload_n 0, 1) := by decide +kernel
theorem d_ES_range_44 : decode b_ES_range 44 = .ok (.aload_n 0, 1) := by decide +kernel
theorem d_ES_range_45 : decode b_ES_range 45 = .ok (.getfield 29, 3) := by decide +kernel
theorem d_ES_range_48 : decode b_ES_range 48 = .ok (.iload_n 1, 1) := by decide +kernel
theorem d_ES_range_49 : decode b_ES_range 49 = .ok (.aaload, 1) := by decide +kernel
theorem d_ES_range_50 : decode b_ES_range 50 = .ok (.iload 5, 2) := by decide +kernel
theorem d_ES_range_52 : decode b_ES_range 52 = .ok (.invokevirtual 83, 3) := by decide +kernel
theorem d_ES_range_55 : decode b_ES_range 55 = .ok (.lstore 6, 2) := by decide +kernel
theorem d_ES_range_57 : decode b_ES_range 57 = .ok (.lload 6, 2) := by decide +kernel
theorem d_ES_range_59 : decode b_ES_range 59 = .ok (.invokestatic 87, 3) := by decide +kernel
theorem d_ES_range_62 : decode b_ES_range 62 = .ok (.ifCond .ne 6, 3) := by decide +kernel
theorem d_ES_range_65 : decode b_ES_range 65 = .ok (.lload 6, 2) := by decide +kernel
theorem d_ES_range_67 : decode b_ES_range 67 = .ok (.lreturn, 1) := by decide +kernel
theorem d_ES_range_68 : decode b_ES_range 68 = .ok (.lload 6, 2) := by decide +kernel
theorem d_ES_range_70 : decode b_ES_range 70 = .ok (.lconst 0, 1) := by decide +kernel
theorem d_ES_range_71 : decode b_ES_range 71 = .ok (.lcmp, 1) := by decide +kernel
theorem d_ES_range_72 : decode b_ES_range 72 = .ok (.ifCond .eq 6, 3) := by decide +kernel
theorem d_ES_range_75 : decode b_ES_range 75 = .ok (.iinc 4 1, 3) := by decide +kernel
theorem d_ES_range_78 : decode b_ES_range 78 = .ok (.iinc 5 1, 3) := by decide +kernel
theorem d_ES_range_81 : decode b_ES_range 81 = .ok (.goto (-44), 3) := by decide +kernel
theorem d_ES_range_84 : decode b_ES_range 84 = .ok (.iload_n 2, 1) := by decide +kernel
theorem d_ES_range_85 : decode b_ES_range 85 = .ok (.istore 5, 2) := by decide +kernel
theorem d_ES_range_87 : decode b_ES_range 87 = .ok (.iload 5, 2) := by decide +kernel
theorem d_ES_range_89 : decode b_ES_range 89 = .ok (.iload_n 3, 1) := by decide +kernel
theorem d_ES_range_90 : decode b_ES_range 90 = .ok (.if_icmp .gt 20, 3) := by decide +kernel
theorem d_ES_range_93 : decode b_ES_range 93 = .ok (.aload_n 0, 1) := by decide +kernel
theorem d_ES_range_94 : decode b_ES_range 94 = .ok (.getfield 29, 3) := by decide +kernel
theorem d_ES_range_97 : decode b_ES_range 97 = .ok (.iload_n 1, 1) := by decide +kernel
theorem d_ES_range_98 : decode b_ES_range 98 = .ok (.aaload, 1) := by decide +kernel
theorem d_ES_range_99 : decode b_ES_range 99 = .ok (.iload 5, 2) := by decide +kernel
theorem d_ES_range_101 : decode b_ES_range 101 = .ok (.invokevirtual 91, 3) := by decide +kernel
theorem d_ES_range_104 : decode b_ES_range 104 = .ok (.iinc 5 1, 3) := by decide +kernel
theorem d_ES_range_107 : decode b_ES_range 107 = .ok (.goto (-20), 3) := by decide +kernel
theorem d_ES_range_110 : decode b_ES_range 110 = .ok (.iload 4, 2) := by decide +kernel
theorem d_ES_range_112 : decode b_ES_range 112 = .ok (.i2l, 1) := by decide +kernel
theorem d_ES_range_113 : decode b_ES_range 113 = .ok (.lreturn, 1) := by decide +kernel
theorem d_Writes_put_0 : decode b_Writes_put 0 = .ok (.aload_n 0, 1) := by decide +kernel
theorem d_Writes_put_1 : decode b_Writes_put 1 = .ok (.dup, 1) := by decide +kernel
theorem d_Writes_put_2 : decode b_Writes_put 2 = .ok (.getfield 15, 3) := by decide +kernel
theorem d_Writes_put_5 : decode b_Writes_put 5 = .ok (.iconst 1, 1) := by decide +kernel
theorem d_Writes_put_6 : decode b_Writes_put 6 = .ok (.iload_n 1, 1) := by decide +kernel
theorem d_Writes_put_7 : decode b_Writes_put 7 = .ok (.ishl, 1) := by decide +kernel
theorem d_Writes_put_8 : decode b_Writes_put 8 = .ok (.ior, 1) := by decide +kernel
theorem d_Writes_put_9 : decode b_Writes_put 9 = .ok (.putfield 15, 3) := by decide +kernel
theorem d_Writes_put_12 : decode b_Writes_put 12 = .ok (.aload_n 0, 1) := by decide +kernel
theorem d_Writes_put_13 : decode b_Writes_put 13 = .ok (.getfield 9, 3) := by decide +kernel
theorem d_Writes_put_16 : decode b_Writes_put 16 = .ok (.iload_n 1, 1) := by decide +kernel
theorem d_Writes_put_17 : decode b_Writes_put 17 = .ok (.iload_n 2, 1) := by decide +kernel
theorem d_Writes_put_18 : decode b_Writes_put 18 = .ok (.iastore, 1) := by decide +kernel
theorem d_Writes_put_19 : decode b_Writes_put 19 = .ok (.return_, 1) := by decide +kernel
theorem d_ES_write_0 : decode b_ES_write 0 = .ok (.aload_n 0, 1) := by decide +kernel
theorem d_ES_write_1 : decode b_ES_write 1 = .ok (.iload_n 1, 1) := by decide +kernel
theorem d_ES_write_2 : decode b_ES_write 2 = .ok (.invokevirtual 75, 3) := by decide +kernel
theorem d_ES_write_5 : decode b_ES_write 5 = .ok (.ifCond .eq 10, 3) := by decide +kernel
theorem d_ES_write_8 : decode b_ES_write 8 = .ok (.iload_n 2, 1) := by decide +kernel
theorem d_ES_write_9 : decode b_ES_write 9 = .ok (.invokestatic 78, 3) := by decide +kernel
theorem d_ES_write_12 : decode b_ES_write 12 = .ok (.ifCond .ne 5, 3) := by decide +kernel
theorem d_ES_write_15 : decode b_ES_write 15 = .ok (.iconst 0, 1) := by decide +kernel
theorem d_ES_write_16 : decode b_ES_write 16 = .ok (.ireturn, 1) := by decide +kernel
theorem d_ES_write_17 : decode b_ES_write 17 = .ok (.aload_n 0, 1) := by decide +kernel
theorem d_ES_write_18 : decode b_ES_write 18 = .ok (.getfield 29, 3) := by decide +kernel
theorem d_ES_write_21 : decode b_ES_write 21 = .ok (.iload_n 1, 1) := by decide +kernel
theorem d_ES_write_22 : decode b_ES_write 22 = .ok (.aaload, 1) := by decide +kernel
theorem d_ES_write_23 : decode b_ES_write 23 = .ok (.getfield 94, 3) := by decide +kernel
theorem d_ES_write_26 : decode b_ES_write 26 = .ok (.iload_n 2, 1) := by decide +kernel
theorem d_ES_write_27 : decode b_ES_write 27 = .ok (.iload_n 3, 1) := by decide +kernel
theorem d_ES_write_28 : decode b_ES_write 28 = .ok (.invokevirtual 98, 3) := by decide +kernel
theorem d_ES_write_31 : decode b_ES_write 31 = .ok (.iconst 1, 1) := by decide +kernel
theorem d_ES_write_32 : decode b_ES_write 32 = .ok (.ireturn, 1) := by decide +kernel
theorem d_Client_finish_0 : decode b_Client_finish 0 = .ok (.aload_n 0, 1) := by decide +kernel
theorem d_Client_finish_1 : decode b_Client_finish 1 = .ok (.getfield 24, 3) := by decide +kernel
theorem d_Client_finish_4 : decode b_Client_finish 4 = .ok (.getfield 57, 3) := by decide +kernel
theorem d_Client_finish_7 : decode b_Client_finish 7 = .ok (.ifCond .ne 9, 3) := by decide +kernel
theorem d_Client_finish_10 : decode b_Client_finish 10 = .ok (.aload_n 0, 1) := by decide +kernel
theorem d_Client_finish_11 : decode b_Client_finish 11 = .ok (.iconst 4, 1) := by decide +kernel
theorem d_Client_finish_12 : decode b_Client_finish 12 = .ok (.putfield 15, 3) := by decide +kernel
theorem d_Client_finish_15 : decode b_Client_finish 15 = .ok (.return_, 1) := by decide +kernel
theorem d_Client_finish_16 : decode b_Client_finish 16 = .ok (.aload_n 0, 1) := by decide +kernel
theorem d_Client_finish_17 : decode b_Client_finish 17 = .ok (.iconst 3, 1) := by decide +kernel
theorem d_Client_finish_18 : decode b_Client_finish 18 = .ok (.putfield 15, 3) := by decide +kernel
theorem d_Client_finish_21 : decode b_Client_finish 21 = .ok (.aload_n 1, 1) := by decide +kernel
theorem d_Client_finish_22 : decode b_Client_finish 22 = .ok (.iconst 5, 1) := by decide +kernel
theorem d_Client_finish_23 : decode b_Client_finish 23 = .ok (.aload_n 0, 1) := by decide +kernel
theorem d_Client_finish_24 : decode b_Client_finish 24 = .ok (.getfield 28, 3) := by decide +kernel
theorem d_Client_finish_27 : decode b_Client_finish 27 = .ok (.aload_n 0, 1) := by decide +kernel
theorem d_Client_finish_28 : decode b_Client_finish 28 = .ok (.getfield 9, 3) := by decide +kernel
theorem d_Client_finish_31 : decode b_Client_finish 31 = .ok (.invokevirtual 44, 3) := by decide +kernel
theorem d_Client_finish_34 : decode b_Client_finish 34 = .ok (.astore_n 2, 1) := by decide +kernel
theorem d_Client_finish_35 : decode b_Client_finish 35 = .ok (.aload_n 2, 1) := by decide +kernel
theorem d_Client_finish_36 : decode b_Client_finish 36 = .ok (.aload_n 0, 1) := by decide +kernel
theorem d_Client_finish_37 : decode b_Client_finish 37 = .ok (.getfield 38, 3) := by decide +kernel
theorem d_Client_finish_40 : decode b_Client_finish 40 = .ok (.putfield 50, 3) := by decide +kernel
theorem d_Client_finish_43 : decode b_Client_finish 43 = .ok (.aload_n 2, 1) := by decide +kernel
theorem d_Client_finish_44 : decode b_Client_finish 44 = .ok (.aload_n 0, 1) := by decide +kernel
theorem d_Client_finish_45 : decode b_Client_finish 45 = .ok (.getfield 31, 3) := by decide +kernel
theorem d_Client_finish_48 : decode b_Client_finish 48 = .ok (.putfield 60, 3) := by decide +kernel
theorem d_Client_finish_51 : decode b_Client_finish 51 = .ok (.aload_n 2, 1) := by decide +kernel
theorem d_Client_finish_52 : decode b_Client_finish 52 = .ok (.aload_n 0, 1) := by decide +kernel
theorem d_Client_finish_53 : decode b_Client_finish 53 = .ok (.getfield 41, 3) := by decide +kernel
theorem d_Client_finish_56 : decode b_Client_finish 56 = .ok (.putfield 63, 3) := by decide +kernel
theorem d_Client_finish_59 : decode b_Client_finish 59 = .ok (.aload_n 2, 1) := by decide +kernel
theorem d_Client_finish_60 : decode b_Client_finish 60 = .ok (.aload_n 0, 1) := by decide +kernel
theorem d_Client_finish_61 : decode b_Client_finish 61 = .ok (.getfield 24, 3) := by decide +kernel
theorem d_Client_finish_64 : decode b_Client_finish 64 = .ok (.putfield 64, 3) := by decide +kernel
theorem d_Client_finish_67 : decode b_Client_finish 67 = .ok (.return_, 1) := by decide +kernel
theorem d_ES_commit_0 : decode b_ES_commit 0 = .ok (.aload_n 0, 1) := by decide +kernel
theorem d_ES_commit_1 : decode b_ES_commit 1 = .ok (.iload_n 1, 1) := by decide +kernel
theorem d_ES_commit_2 : decode b_ES_commit 2 = .ok (.invokevirtual 75, 3) := by decide +kernel
theorem d_ES_commit_5 : decode b_ES_commit 5 = .ok (.ifCond .ne 5, 3) := by decide +kernel
theorem d_ES_commit_8 : decode b_ES_commit 8 = .ok (.iconst 0, 1) := by decide +kernel
theorem d_ES_commit_9 : decode b_ES_commit 9 = .ok (.ireturn, 1) := by decide +kernel
theorem d_ES_commit_10 : decode b_ES_commit 10 = .ok (.aload_n 0, 1) := by decide +kernel
theorem d_ES_commit_11 : decode b_ES_commit 11 = .ok (.getfield 29, 3) := by decide +kernel
theorem d_ES_commit_14 : decode b_ES_commit 14 = .ok (.iload_n 1, 1) := by decide +kernel
theorem d_ES_commit_15 : decode b_ES_commit 15 = .ok (.aaload, 1) := by decide +kernel
theorem d_ES_commit_16 : decode b_ES_commit 16 = .ok (.aload_n 0, 1) := by decide +kernel
theorem d_ES_commit_17 : decode b_ES_commit 17 = .ok (.getfield 42, 3) := by decide +kernel
theorem d_ES_commit_20 : decode b_ES_commit 20 = .ok (.invokevirtual 104, 3) := by decide +kernel
theorem d_ES_commit_23 : decode b_ES_commit 23 = .ok (.iconst 1, 1) := by decide +kernel
theorem d_ES_commit_24 : decode b_ES_commit 24 = .ok (.ireturn, 1) := by decide +kernel
theorem d_Client_drop_0 : decode b_Client_drop 0 = .ok (.aload_n 0, 1) := by decide +kernel
theorem d_Client_drop_1 : decode b_Client_drop 1 = .ok (.aload_n 0, 1) := by decide +kernel
theorem d_Client_drop_2 : decode b_Client_drop 2 = .ok (.getfield 15, 3) := by decide +kernel
theorem d_Client_drop_5 : decode b_Client_drop 5 = .ok (.iconst 3, 1) := by decide +kernel
theorem d_Client_drop_6 : decode b_Client_drop 6 = .ok (.if_icmp .ne 8, 3) := by decide +kernel
theorem d_Client_drop_9 : decode b_Client_drop 9 = .ok (.bipush 7, 2) := by decide +kernel
theorem d_Client_drop_11 : decode b_Client_drop 11 = .ok (.goto 5, 3) := by decide +kernel
theorem d_Client_drop_14 : decode b_Client_drop 14 = .ok (.bipush 8, 2) := by decide +kernel
theorem d_Client_drop_16 : decode b_Client_drop 16 = .ok (.putfield 15, 3) := by decide +kernel
theorem d_Client_drop_19 : decode b_Client_drop 19 = .ok (.return_, 1) := by decide +kernel
theorem d_ES_giveUp_0 : decode b_ES_giveUp 0 = .ok (.iload_n 1, 1) := by decide +kernel
theorem d_ES_giveUp_1 : decode b_ES_giveUp 1 = .ok (.invokestatic 59, 3) := by decide +kernel
theorem d_ES_giveUp_4 : decode b_ES_giveUp 4 = .ok (.ifCond .eq 15, 3) := by decide +kernel
theorem d_ES_giveUp_7 : decode b_ES_giveUp 7 = .ok (.aload_n 0, 1) := by decide +kernel
theorem d_ES_giveUp_8 : decode b_ES_giveUp 8 = .ok (.getfield 29, 3) := by decide +kernel
theorem d_ES_giveUp_11 : decode b_ES_giveUp 11 = .ok (.iload_n 1, 1) := by decide +kernel
theorem d_ES_giveUp_12 : decode b_ES_giveUp 12 = .ok (.aaload, 1) := by decide +kernel
theorem d_ES_giveUp_13 : decode b_ES_giveUp 13 = .ok (.invokevirtual 67, 3) := by decide +kernel
theorem d_ES_giveUp_16 : decode b_ES_giveUp 16 = .ok (.ifCond .ne 5, 3) := by decide +kernel
theorem d_ES_giveUp_19 : decode b_ES_giveUp 19 = .ok (.iconst 0, 1) := by decide +kernel
theorem d_ES_giveUp_20 : decode b_ES_giveUp 20 = .ok (.ireturn, 1) := by decide +kernel
theorem d_ES_giveUp_21 : decode b_ES_giveUp 21 = .ok (.aload_n 0, 1) := by decide +kernel
theorem d_ES_giveUp_22 : decode b_ES_giveUp 22 = .ok (.getfield 29, 3) := by decide +kernel
theorem d_ES_giveUp_25 : decode b_ES_giveUp 25 = .ok (.iload_n 1, 1) := by decide +kernel
theorem d_ES_giveUp_26 : decode b_ES_giveUp 26 = .ok (.aaload, 1) := by decide +kernel
theorem d_ES_giveUp_27 : decode b_ES_giveUp 27 = .ok (.invokevirtual 107, 3) := by decide +kernel
theorem d_ES_giveUp_30 : decode b_ES_giveUp 30 = .ok (.iconst 1, 1) := by decide +kernel
theorem d_ES_giveUp_31 : decode b_ES_giveUp 31 = .ok (.ireturn, 1) := by decide +kernel
theorem d_Client_code_0 : decode b_Client_code 0 = .ok (.aload_n 0, 1) := by decide +kernel
theorem d_Client_code_1 : decode b_Client_code 1 = .ok (.getfield 15, 3) := by decide +kernel
theorem d_Client_code_4 : decode b_Client_code 4 = .ok (.bipush 16, 2) := by decide +kernel
theorem d_Client_code_6 : decode b_Client_code 6 = .ok (.aload_n 0, 1) := by decide +kernel
theorem d_Client_code_7 : decode b_Client_code 7 = .ok (.getfield 31, 3) := by decide +kernel
theorem d_Client_code_10 : decode b_Client_code 10 = .ok (.imul, 1) := by decide +kernel
theorem d_Client_code_11 : decode b_Client_code 11 = .ok (.iadd, 1) := by decide +kernel
theorem d_Client_code_12 : decode b_Client_code 12 = .ok (.ldc 34, 2) := by decide +kernel
theorem d_Client_code_14 : decode b_Client_code 14 = .ok (.aload_n 0, 1) := by decide +kernel
theorem d_Client_code_15 : decode b_Client_code 15 = .ok (.getfield 35, 3) := by decide +kernel
theorem d_Client_code_18 : decode b_Client_code 18 = .ok (.imul, 1) := by decide +kernel
theorem d_Client_code_19 : decode b_Client_code 19 = .ok (.iadd, 1) := by decide +kernel
theorem d_Client_code_20 : decode b_Client_code 20 = .ok (.ireturn, 1) := by decide +kernel
theorem d_ES_status_0 : decode b_ES_status 0 = .ok (.iload_n 1, 1) := by decide +kernel
theorem d_ES_status_1 : decode b_ES_status 1 = .ok (.invokestatic 59, 3) := by decide +kernel
theorem d_ES_status_4 : decode b_ES_status 4 = .ok (.ifCond .eq 15, 3) := by decide +kernel
theorem d_ES_status_7 : decode b_ES_status 7 = .ok (.aload_n 0, 1) := by decide +kernel
theorem d_ES_status_8 : decode b_ES_status 8 = .ok (.getfield 29, 3) := by decide +kernel
theorem d_ES_status_11 : decode b_ES_status 11 = .ok (.iload_n 1, 1) := by decide +kernel
theorem d_ES_status_12 : decode b_ES_status 12 = .ok (.aaload, 1) := by decide +kernel
theorem d_ES_status_13 : decode b_ES_status 13 = .ok (.invokevirtual 110, 3) := by decide +kernel
theorem d_ES_status_16 : decode b_ES_status 16 = .ok (.goto 4, 3) := by decide +kernel
theorem d_ES_status_19 : decode b_ES_status 19 = .ok (.iconst (-1), 1) := by decide +kernel
theorem d_ES_status_20 : decode b_ES_status 20 = .ok (.ireturn, 1) := by decide +kernel
theorem d_ES_messages_0 : decode b_ES_messages 0 = .ok (.aload_n 0, 1) := by decide +kernel
theorem d_ES_messages_1 : decode b_ES_messages 1 = .ok (.getfield 42, 3) := by decide +kernel
theorem d_ES_messages_4 : decode b_ES_messages 4 = .ok (.getfield 113, 3) := by decide +kernel
theorem d_ES_messages_7 : decode b_ES_messages 7 = .ok (.ireturn, 1) := by decide +kernel
theorem d_Line_has_0 : decode b_Line_has 0 = .ok (.iload_n 1, 1) := by decide +kernel
theorem d_Line_has_1 : decode b_Line_has 1 = .ok (.ifCond .lt 15, 3) := by decide +kernel
theorem d_Line_has_4 : decode b_Line_has 4 = .ok (.iload_n 1, 1) := by decide +kernel
theorem d_Line_has_5 : decode b_Line_has 5 = .ok (.aload_n 0, 1) := by decide +kernel
theorem d_Line_has_6 : decode b_Line_has 6 = .ok (.getfield 22, 3) := by decide +kernel
theorem d_Line_has_9 : decode b_Line_has 9 = .ok (.if_icmp .ge 7, 3) := by decide +kernel
theorem d_Line_has_12 : decode b_Line_has 12 = .ok (.iconst 1, 1) := by decide +kernel
theorem d_Line_has_13 : decode b_Line_has 13 = .ok (.goto 4, 3) := by decide +kernel
theorem d_Line_has_16 : decode b_Line_has 16 = .ok (.iconst 0, 1) := by decide +kernel
theorem d_Line_has_17 : decode b_Line_has 17 = .ok (.ireturn, 1) := by decide +kernel
theorem d_Message_code_0 : decode b_Message_code 0 = .ok (.aload_n 0, 1) := by decide +kernel
theorem d_Message_code_1 : decode b_Message_code 1 = .ok (.getfield 7, 3) := by decide +kernel
theorem d_Message_code_4 : decode b_Message_code 4 = .ok (.bipush 16, 2) := by decide +kernel
theorem d_Message_code_6 : decode b_Message_code 6 = .ok (.aload_n 0, 1) := by decide +kernel
theorem d_Message_code_7 : decode b_Message_code 7 = .ok (.getfield 13, 3) := by decide +kernel
theorem d_Message_code_10 : decode b_Message_code 10 = .ok (.imul, 1) := by decide +kernel
theorem d_Message_code_11 : decode b_Message_code 11 = .ok (.iadd, 1) := by decide +kernel
theorem d_Message_code_12 : decode b_Message_code 12 = .ok (.sipush 256, 3) := by decide +kernel
theorem d_Message_code_15 : decode b_Message_code 15 = .ok (.aload_n 0, 1) := by decide +kernel
theorem d_Message_code_16 : decode b_Message_code 16 = .ok (.getfield 16, 3) := by decide +kernel
theorem d_Message_code_19 : decode b_Message_code 19 = .ok (.imul, 1) := by decide +kernel
theorem d_Message_code_20 : decode b_Message_code 20 = .ok (.iadd, 1) := by decide +kernel
theorem d_Message_code_21 : decode b_Message_code 21 = .ok (.ldc 42, 2) := by decide +kernel
theorem d_Message_code_23 : decode b_Message_code 23 = .ok (.aload_n 0, 1) := by decide +kernel
theorem d_Message_code_24 : decode b_Message_code 24 = .ok (.getfield 19, 3) := by decide +kernel
theorem d_Message_code_27 : decode b_Message_code 27 = .ok (.imul, 1) := by decide +kernel
theorem d_Message_code_28 : decode b_Message_code 28 = .ok (.iadd, 1) := by decide +kernel
theorem d_Message_code_29 : decode b_Message_code 29 = .ok (.ireturn, 1) := by decide +kernel
theorem d_ES_message_0 : decode b_ES_message 0 = .ok (.aload_n 0, 1) := by decide +kernel
theorem d_ES_message_1 : decode b_ES_message 1 = .ok (.getfield 42, 3) := by decide +kernel
theorem d_ES_message_4 : decode b_ES_message 4 = .ok (.iload_n 1, 1) := by decide +kernel
theorem d_ES_message_5 : decode b_ES_message 5 = .ok (.invokevirtual 116, 3) := by decide +kernel
theorem d_ES_message_8 : decode b_ES_message 8 = .ok (.ifCond .eq 18, 3) := by decide +kernel
theorem d_ES_message_11 : decode b_ES_message 11 = .ok (.aload_n 0, 1) := by decide +kernel
theorem d_ES_message_12 : decode b_ES_message 12 = .ok (.getfield 42, 3) := by decide +kernel
theorem d_ES_message_15 : decode b_ES_message 15 = .ok (.getfield 119, 3) := by decide +kernel
theorem d_ES_message_18 : decode b_ES_message 18 = .ok (.iload_n 1, 1) := by decide +kernel
theorem d_ES_message_19 : decode b_ES_message 19 = .ok (.aaload, 1) := by decide +kernel
theorem d_ES_message_20 : decode b_ES_message 20 = .ok (.invokevirtual 123, 3) := by decide +kernel
theorem d_ES_message_23 : decode b_ES_message 23 = .ok (.goto 4, 3) := by decide +kernel
theorem d_ES_message_26 : decode b_ES_message 26 = .ok (.iconst (-1), 1) := by decide +kernel
theorem d_ES_message_27 : decode b_ES_message 27 = .ok (.ireturn, 1) := by decide +kernel
theorem d_Line_take_0 : decode b_Line_take 0 = .ok (.aload_n 0, 1) := by decide +kernel
theorem d_Line_take_1 : decode b_Line_take 1 = .ok (.getfield 11, 3) := by decide +kernel
theorem d_Line_take_4 : decode b_Line_take 4 = .ok (.iload_n 1, 1) := by decide +kernel
theorem d_Line_take_5 : decode b_Line_take 5 = .ok (.aaload, 1) := by decide +kernel
theorem d_Line_take_6 : decode b_Line_take 6 = .ok (.astore_n 2, 1) := by decide +kernel
theorem d_Line_take_7 : decode b_Line_take 7 = .ok (.iload_n 1, 1) := by decide +kernel
theorem d_Line_take_8 : decode b_Line_take 8 = .ok (.istore_n 3, 1) := by decide +kernel
theorem d_Line_take_9 : decode b_Line_take 9 = .ok (.iload_n 3, 1) := by decide +kernel
theorem d_Line_take_10 : decode b_Line_take 10 = .ok (.bipush 24, 2) := by decide +kernel
theorem d_Line_take_12 : decode b_Line_take 12 = .ok (.if_icmp .ge 23, 3) := by decide +kernel
theorem d_Line_take_15 : decode b_Line_take 15 = .ok (.aload_n 0, 1) := by decide +kernel
theorem d_Line_take_16 : decode b_Line_take 16 = .ok (.getfield 11, 3) := by decide +kernel
theorem d_Line_take_19 : decode b_Line_take 19 = .ok (.iload_n 3, 1) := by decide +kernel
theorem d_Line_take_20 : decode b_Line_take 20 = .ok (.aload_n 0, 1) := by decide +kernel
theorem d_Line_take_21 : decode b_Line_take 21 = .ok (.getfield 11, 3) := by decide +kernel
theorem d_Line_take_24 : decode b_Line_take 24 = .ok (.iload_n 3, 1) := by decide +kernel
theorem d_Line_take_25 : decode b_Line_take 25 = .ok (.iconst 1, 1) := by decide +kernel
theorem d_Line_take_26 : decode b_Line_take 26 = .ok (.iadd, 1) := by decide +kernel
theorem d_Line_take_27 : decode b_Line_take 27 = .ok (.aaload, 1) := by decide +kernel
theorem d_Line_take_28 : decode b_Line_take 28 = .ok (.aastore, 1) := by decide +kernel
theorem d_Line_take_29 : decode b_Line_take 29 = .ok (.iinc 3 1, 3) := by decide +kernel
theorem d_Line_take_32 : decode b_Line_take 32 = .ok (.goto (-23), 3) := by decide +kernel
theorem d_Line_take_35 : decode b_Line_take 35 = .ok (.aload_n 0, 1) := by decide +kernel
theorem d_Line_take_36 : decode b_Line_take 36 = .ok (.getfield 11, 3) := by decide +kernel
theorem d_Line_take_39 : decode b_Line_take 39 = .ok (.bipush 24, 2) := by decide +kernel
theorem d_Line_take_41 : decode b_Line_take 41 = .ok (.aload_n 2, 1) := by decide +kernel
theorem d_Line_take_42 : decode b_Line_take 42 = .ok (.aastore, 1) := by decide +kernel
theorem d_Line_take_43 : decode b_Line_take 43 = .ok (.aload_n 0, 1) := by decide +kernel
theorem d_Line_take_44 : decode b_Line_take 44 = .ok (.dup, 1) := by decide +kernel
theorem d_Line_take_45 : decode b_Line_take 45 = .ok (.getfield 22, 3) := by decide +kernel
theorem d_Line_take_48 : decode b_Line_take 48 = .ok (.iconst 1, 1) := by decide +kernel
theorem d_Line_take_49 : decode b_Line_take 49 = .ok (.isub, 1) := by decide +kernel
theorem d_Line_take_50 : decode b_Line_take 50 = .ok (.putfield 22, 3) := by decide +kernel
theorem d_Line_take_53 : decode b_Line_take 53 = .ok (.aload_n 2, 1) := by decide +kernel
theorem d_Line_take_54 : decode b_Line_take 54 = .ok (.areturn, 1) := by decide +kernel
