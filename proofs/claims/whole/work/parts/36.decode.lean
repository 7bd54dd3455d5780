theorem d_EM_send_0 : decode b_EM_send 0 = .ok (.aload_n 0, 1) := by decide +kernel
theorem d_EM_send_1 : decode b_EM_send 1 = .ok (.getfield 176, 3) := by decide +kernel
theorem d_EM_send_4 : decode b_EM_send 4 = .ok (.istore 6, 2) := by decide +kernel
theorem d_EM_send_6 : decode b_EM_send 6 = .ok (.aload_n 0, 1) := by decide +kernel
theorem d_EM_send_7 : decode b_EM_send 7 = .ok (.getfield 176, 3) := by decide +kernel
theorem d_EM_send_10 : decode b_EM_send 10 = .ok (.bipush 24, 2) := by decide +kernel
theorem d_EM_send_12 : decode b_EM_send 12 = .ok (.if_icmp .ge 13, 3) := by decide +kernel
theorem d_EM_send_15 : decode b_EM_send 15 = .ok (.aload_n 0, 1) := by decide +kernel
theorem d_EM_send_16 : decode b_EM_send 16 = .ok (.dup, 1) := by decide +kernel
theorem d_EM_send_17 : decode b_EM_send 17 = .ok (.getfield 176, 3) := by decide +kernel
theorem d_EM_send_20 : decode b_EM_send 20 = .ok (.iconst 1, 1) := by decide +kernel
theorem d_EM_send_21 : decode b_EM_send 21 = .ok (.iadd, 1) := by decide +kernel
theorem d_EM_send_22 : decode b_EM_send 22 = .ok (.putfield 176, 3) := by decide +kernel
theorem d_EM_send_25 : decode b_EM_send 25 = .ok (.aload_n 0, 1) := by decide +kernel
theorem d_EM_send_26 : decode b_EM_send 26 = .ok (.getfield 152, 3) := by decide +kernel
theorem d_EM_send_29 : decode b_EM_send 29 = .ok (.iload 6, 2) := by decide +kernel
theorem d_EM_send_31 : decode b_EM_send 31 = .ok (.iload_n 1, 1) := by decide +kernel
theorem d_EM_send_32 : decode b_EM_send 32 = .ok (.iastore, 1) := by decide +kernel
theorem d_EM_send_33 : decode b_EM_send 33 = .ok (.aload_n 0, 1) := by decide +kernel
theorem d_EM_send_34 : decode b_EM_send 34 = .ok (.getfield 155, 3) := by decide +kernel
theorem d_EM_send_37 : decode b_EM_send 37 = .ok (.iload 6, 2) := by decide +kernel
theorem d_EM_send_39 : decode b_EM_send 39 = .ok (.iload_n 2, 1) := by decide +kernel
theorem d_EM_send_40 : decode b_EM_send 40 = .ok (.iastore, 1) := by decide +kernel
theorem d_EM_send_41 : decode b_EM_send 41 = .ok (.aload_n 0, 1) := by decide +kernel
theorem d_EM_send_42 : decode b_EM_send 42 = .ok (.getfield 158, 3) := by decide +kernel
theorem d_EM_send_45 : decode b_EM_send 45 = .ok (.iload 6, 2) := by decide +kernel
theorem d_EM_send_47 : decode b_EM_send 47 = .ok (.iload_n 3, 1) := by decide +kernel
theorem d_EM_send_48 : decode b_EM_send 48 = .ok (.iastore, 1) := by decide +kernel
theorem d_EM_send_49 : decode b_EM_send 49 = .ok (.aload_n 0, 1) := by decide +kernel
theorem d_EM_send_50 : decode b_EM_send 50 = .ok (.getfield 161, 3) := by decide +kernel
theorem d_EM_send_53 : decode b_EM_send 53 = .ok (.iload 6, 2) := by decide +kernel
theorem d_EM_send_55 : decode b_EM_send 55 = .ok (.iload 4, 2) := by decide +kernel
theorem d_EM_send_57 : decode b_EM_send 57 = .ok (.iastore, 1) := by decide +kernel
theorem d_EM_send_58 : decode b_EM_send 58 = .ok (.aload_n 0, 1) := by decide +kernel
theorem d_EM_send_59 : decode b_EM_send 59 = .ok (.getfield 164, 3) := by decide +kernel
theorem d_EM_send_62 : decode b_EM_send 62 = .ok (.iload 6, 2) := by decide +kernel
theorem d_EM_send_64 : decode b_EM_send 64 = .ok (.iload 5, 2) := by decide +kernel
theorem d_EM_send_66 : decode b_EM_send 66 = .ok (.iastore, 1) := by decide +kernel
theorem d_EM_send_67 : decode b_EM_send 67 = .ok (.aload_n 0, 1) := by decide +kernel
theorem d_EM_send_68 : decode b_EM_send 68 = .ok (.getfield 167, 3) := by decide +kernel
theorem d_EM_send_71 : decode b_EM_send 71 = .ok (.iload 6, 2) := by decide +kernel
theorem d_EM_send_73 : decode b_EM_send 73 = .ok (.iconst 0, 1) := by decide +kernel
theorem d_EM_send_74 : decode b_EM_send 74 = .ok (.iastore, 1) := by decide +kernel
theorem d_EM_send_75 : decode b_EM_send 75 = .ok (.aload_n 0, 1) := by decide +kernel
theorem d_EM_send_76 : decode b_EM_send 76 = .ok (.getfield 170, 3) := by decide +kernel
theorem d_EM_send_79 : decode b_EM_send 79 = .ok (.iload 6, 2) := by decide +kernel
theorem d_EM_send_81 : decode b_EM_send 81 = .ok (.iconst 0, 1) := by decide +kernel
theorem d_EM_send_82 : decode b_EM_send 82 = .ok (.iastore, 1) := by decide +kernel
theorem d_EM_send_83 : decode b_EM_send 83 = .ok (.iload 6, 2) := by decide +kernel
theorem d_EM_send_85 : decode b_EM_send 85 = .ok (.ireturn, 1) := by decide +kernel
theorem d_EM_copyMessage_0 : decode b_EM_copyMessage 0 = .ok (.aload_n 0, 1) := by decide +kernel
theorem d_EM_copyMessage_1 : decode b_EM_copyMessage 1 = .ok (.getfield 152, 3) := by decide +kernel
theorem d_EM_copyMessage_4 : decode b_EM_copyMessage 4 = .ok (.iload_n 2, 1) := by decide +kernel
theorem d_EM_copyMessage_5 : decode b_EM_copyMessage 5 = .ok (.aload_n 0, 1) := by decide +kernel
theorem d_EM_copyMessage_6 : decode b_EM_copyMessage 6 = .ok (.getfield 152, 3) := by decide +kernel
theorem d_EM_copyMessage_9 : decode b_EM_copyMessage 9 = .ok (.iload_n 1, 1) := by decide +kernel
theorem d_EM_copyMessage_10 : decode b_EM_copyMessage 10 = .ok (.iaload, 1) := by decide +kernel
theorem d_EM_copyMessage_11 : decode b_EM_copyMessage 11 = .ok (.iastore, 1) := by decide +kernel
theorem d_EM_copyMessage_12 : decode b_EM_copyMessage 12 = .ok (.aload_n 0, 1) := by decide +kernel
theorem d_EM_copyMessage_13 : decode b_EM_copyMessage 13 = .ok (.getfield 155, 3) := by decide +kernel
theorem d_EM_copyMessage_16 : decode b_EM_copyMessage 16 = .ok (.iload_n 2, 1) := by decide +kernel
theorem d_EM_copyMessage_17 : decode b_EM_copyMessage 17 = .ok (.aload_n 0, 1) := by decide +kernel
theorem d_EM_copyMessage_18 : decode b_EM_copyMessage 18 = .ok (.getfield 155, 3) := by decide +kernel
theorem d_EM_copyMessage_21 : decode b_EM_copyMessage 21 = .ok (.iload_n 1, 1) := by decide +kernel
theorem d_EM_copyMessage_22 : decode b_EM_copyMessage 22 = .ok (.iaload, 1) := by decide +kernel
theorem d_EM_copyMessage_23 : decode b_EM_copyMessage 23 = .ok (.iastore, 1) := by decide +kernel
theorem d_EM_copyMessage_24 : decode b_EM_copyMessage 24 = .ok (.aload_n 0, 1) := by decide +kernel
theorem d_EM_copyMessage_25 : decode b_EM_copyMessage 25 = .ok (.getfield 158, 3) := by decide +kernel
theorem d_EM_copyMessage_28 : decode b_EM_copyMessage 28 = .ok (.iload_n 2, 1) := by decide +kernel
theorem d_EM_copyMessage_29 : decode b_EM_copyMessage 29 = .ok (.aload_n 0, 1) := by decide +kernel
theorem d_EM_copyMessage_30 : decode b_EM_copyMessage 30 = .ok (.getfield 158, 3) := by decide +kernel
theorem d_EM_copyMessage_33 : decode b_EM_copyMessage 33 = .ok (.iload_n 1, 1) := by decide +kernel
theorem d_EM_copyMessage_34 : decode b_EM_copyMessage 34 = .ok (.iaload, 1) := by decide +kernel
theorem d_EM_copyMessage_35 : decode b_EM_copyMessage 35 = .ok (.iastore, 1) := by decide +kernel
theorem d_EM_copyMessage_36 : decode b_EM_copyMessage 36 = .ok (.aload_n 0, 1) := by decide +kernel
theorem d_EM_copyMessage_37 : decode b_EM_copyMessage 37 = .ok (.getfield 161, 3) := by decide +kernel
theorem d_EM_copyMessage_40 : decode b_EM_copyMessage 40 = .ok (.iload_n 2, 1) := by decide +kernel
theorem d_EM_copyMessage_41 : decode b_EM_copyMessage 41 = .ok (.aload_n 0, 1) := by decide +kernel
theorem d_EM_copyMessage_42 : decode b_EM_copyMessage 42 = .ok (.getfield 161, 3) := by decide +kernel
theorem d_EM_copyMessage_45 : decode b_EM_copyMessage 45 = .ok (.iload_n 1, 1) := by decide +kernel
theorem d_EM_copyMessage_46 : decode b_EM_copyMessage 46 = .ok (.iaload, 1) := by decide +kernel
theorem d_EM_copyMessage_47 : decode b_EM_copyMessage 47 = .ok (.iastore, 1) := by decide +kernel
theorem d_EM_copyMessage_48 : decode b_EM_copyMessage 48 = .ok (.aload_n 0, 1) := by decide +kernel
theorem d_EM_copyMessage_49 : decode b_EM_copyMessage 49 = .ok (.getfield 164, 3) := by decide +kernel
theorem d_EM_copyMessage_52 : decode b_EM_copyMessage 52 = .ok (.iload_n 2, 1) := by decide +kernel
theorem d_EM_copyMessage_53 : decode b_EM_copyMessage 53 = .ok (.aload_n 0, 1) := by decide +kernel
theorem d_EM_copyMessage_54 : decode b_EM_copyMessage 54 = .ok (.getfield 164, 3) := by decide +kernel
theorem d_EM_copyMessage_57 : decode b_EM_copyMessage 57 = .ok (.iload_n 1, 1) := by decide +kernel
theorem d_EM_copyMessage_58 : decode b_EM_copyMessage 58 = .ok (.iaload, 1) := by decide +kernel
theorem d_EM_copyMessage_59 : decode b_EM_copyMessage 59 = .ok (.iastore, 1) := by decide +kernel
theorem d_EM_copyMessage_60 : decode b_EM_copyMessage 60 = .ok (.aload_n 0, 1) := by decide +kernel
theorem d_EM_copyMessage_61 : decode b_EM_copyMessage 61 = .ok (.getfield 167, 3) := by decide +kernel
theorem d_EM_copyMessage_64 : decode b_EM_copyMessage 64 = .ok (.iload_n 2, 1) := by decide +kernel
theorem d_EM_copyMessage_65 : decode b_EM_copyMessage 65 = .ok (.aload_n 0, 1) := by decide +kernel
theorem d_EM_copyMessage_66 : decode b_EM_copyMessage 66 = .ok (.getfield 167, 3) := by decide +kernel
theorem d_EM_copyMessage_69 : decode b_EM_copyMessage 69 = .ok (.iload_n 1, 1) := by decide +kernel
theorem d_EM_copyMessage_70 : decode b_EM_copyMessage 70 = .ok (.iaload, 1) := by decide +kernel
theorem d_EM_copyMessage_71 : decode b_EM_copyMessage 71 = .ok (.iastore, 1) := by decide +kernel
theorem d_EM_copyMessage_72 : decode b_EM_copyMessage 72 = .ok (.aload_n 0, 1) := by decide +kernel
theorem d_EM_copyMessage_73 : decode b_EM_copyMessage 73 = .ok (.getfield 170, 3) := by decide +kernel
theorem d_EM_copyMessage_76 : decode b_EM_copyMessage 76 = .ok (.iload_n 2, 1) := by decide +kernel
theorem d_EM_copyMessage_77 : decode b_EM_copyMessage 77 = .ok (.aload_n 0, 1) := by decide +kernel
theorem d_EM_copyMessage_78 : decode b_EM_copyMessage 78 = .ok (.getfield 170, 3) := by decide +kernel
theorem d_EM_copyMessage_81 : decode b_EM_copyMessage 81 = .ok (.iload_n 1, 1) := by decide +kernel
theorem d_EM_copyMessage_82 : decode b_EM_copyMessage 82 = .ok (.iaload, 1) := by decide +kernel
theorem d_EM_copyMessage_83 : decode b_EM_copyMessage 83 = .ok (.iastore, 1) := by decide +kernel
theorem d_EM_copyMessage_84 : decode b_EM_copyMessage 84 = .ok (.iconst 0, 1) := by decide +kernel
theorem d_EM_copyMessage_85 : decode b_EM_copyMessage 85 = .ok (.istore_n 3, 1) := by decide +kernel
theorem d_EM_copyMessage_86 : decode b_EM_copyMessage 86 = .ok (.iload_n 3, 1) := by decide +kernel
theorem d_EM_copyMessage_87 : decode b_EM_copyMessage 87 = .ok (.bipush 8, 2) := by decide +kernel
theorem d_EM_copyMessage_89 : decode b_EM_copyMessage 89 = .ok (.if_icmp .ge 31, 3) := by decide +kernel
theorem d_EM_copyMessage_92 : decode b_EM_copyMessage 92 = .ok (.aload_n 0, 1) := by decide +kernel
theorem d_EM_copyMessage_93 : decode b_EM_copyMessage 93 = .ok (.getfield 173, 3) := by decide +kernel
theorem d_EM_copyMessage_96 : decode b_EM_copyMessage 96 = .ok (.bipush 8, 2) := by decide +kernel
theorem d_EM_copyMessage_98 : decode b_EM_copyMessage 98 = .ok (.iload_n 2, 1) := by decide +kernel
theorem d_EM_copyMessage_99 : decode b_EM_copyMessage 99 = .ok (.imul, 1) := by decide +kernel
theorem d_EM_copyMessage_100 : decode b_EM_copyMessage 100 = .ok (.iload_n 3, 1) := by decide +kernel
theorem d_EM_copyMessage_101 : decode b_EM_copyMessage 101 = .ok (.iadd, 1) := by decide +kernel
theorem d_EM_copyMessage_102 : decode b_EM_copyMessage 102 = .ok (.aload_n 0, 1) := by decide +kernel
theorem d_EM_copyMessage_103 : decode b_EM_copyMessage 103 = .ok (.getfield 173, 3) := by decide +kernel
theorem d_EM_copyMessage_106 : decode b_EM_copyMessage 106 = .ok (.bipush 8, 2) := by decide +kernel
theorem d_EM_copyMessage_108 : decode b_EM_copyMessage 108 = .ok (.iload_n 1, 1) := by decide +kernel
theorem d_EM_copyMessage_109 : decode b_EM_copyMessage 109 = .ok (.imul, 1) := by decide +kernel
theorem d_EM_copyMessage_110 : decode b_EM_copyMessage 110 = .ok (.iload_n 3, 1) := by decide +kernel
theorem d_EM_copyMessage_111 : decode b_EM_copyMessage 111 = .ok (.iadd, 1) := by decide +kernel
theorem d_EM_copyMessage_112 : decode b_EM_copyMessage 112 = .ok (.iaload, 1) := by decide +kernel
theorem d_EM_copyMessage_113 : decode b_EM_copyMessage 113 = .ok (.iastore, 1) := by decide +kernel
theorem d_EM_copyMessage_114 : decode b_EM_copyMessage 114 = .ok (.iinc 3 1, 3) := by decide +kernel
theorem d_EM_copyMessage_117 : decode b_EM_copyMessage 117 = .ok (.goto (-31), 3) := by decide +kernel
theorem d_EM_copyMessage_120 : decode b_EM_copyMessage 120 = .ok (.return_, 1) := by decide +kernel
theorem d_EM_take_0 : decode b_EM_take 0 = .ok (.aload_n 0, 1) := by decide +kernel
theorem d_EM_take_1 : decode b_EM_take 1 = .ok (.iload_n 1, 1) := by decide +kernel
theorem d_EM_take_2 : decode b_EM_take 2 = .ok (.bipush 24, 2) := by decide +kernel
theorem d_EM_take_4 : decode b_EM_take 4 = .ok (.invokevirtual 180, 3) := by decide +kernel
theorem d_EM_take_7 : decode b_EM_take 7 = .ok (.aload_n 0, 1) := by decide +kernel
theorem d_EM_take_8 : decode b_EM_take 8 = .ok (.dup, 1) := by decide +kernel
theorem d_EM_take_9 : decode b_EM_take 9 = .ok (.getfield 176, 3) := by decide +kernel
theorem d_EM_take_12 : decode b_EM_take 12 = .ok (.iconst 1, 1) := by decide +kernel
theorem d_EM_take_13 : decode b_EM_take 13 = .ok (.isub, 1) := by decide +kernel
theorem d_EM_take_14 : decode b_EM_take 14 = .ok (.putfield 176, 3) := by decide +kernel
theorem d_EM_take_17 : decode b_EM_take 17 = .ok (.iload_n 1, 1) := by decide +kernel
theorem d_EM_take_18 : decode b_EM_take 18 = .ok (.istore_n 2, 1) := by decide +kernel
theorem d_EM_take_19 : decode b_EM_take 19 = .ok (.iload_n 2, 1) := by decide +kernel
theorem d_EM_take_20 : decode b_EM_take 20 = .ok (.aload_n 0, 1) := by decide +kernel
theorem d_EM_take_21 : decode b_EM_take 21 = .ok (.getfield 176, 3) := by decide +kernel
theorem d_EM_take_24 : decode b_EM_take 24 = .ok (.if_icmp .ge 17, 3) := by decide +kernel
theorem d_EM_take_27 : decode b_EM_take 27 = .ok (.aload_n 0, 1) := by decide +kernel
theorem d_EM_take_28 : decode b_EM_take 28 = .ok (.iload_n 2, 1) := by decide +kernel
theorem d_EM_take_29 : decode b_EM_take 29 = .ok (.iconst 1, 1) := by decide +kernel
theorem d_EM_take_30 : decode b_EM_take 30 = .ok (.iadd, 1) := by decide +kernel
theorem d_EM_take_31 : decode b_EM_take 31 = .ok (.iload_n 2, 1) := by decide +kernel
theorem d_EM_take_32 : decode b_EM_take 32 = .ok (.invokevirtual 180, 3) := by decide +kernel
theorem d_EM_take_35 : decode b_EM_take 35 = .ok (.iinc 2 1, 3) := by decide +kernel
theorem d_EM_take_38 : decode b_EM_take 38 = .ok (.goto (-19), 3) := by decide +kernel
theorem d_EM_take_41 : decode b_EM_take 41 = .ok (.return_, 1) := by decide +kernel
theorem d_EM_messages_0 : decode b_EM_messages 0 = .ok (.aload_n 0, 1) := by decide +kernel
theorem d_EM_messages_1 : decode b_EM_messages 1 = .ok (.getfield 176, 3) := by decide +kernel
theorem d_EM_messages_4 : decode b_EM_messages 4 = .ok (.ireturn, 1) := by decide +kernel
theorem d_EM_message_0 : decode b_EM_message 0 = .ok (.iload_n 1, 1) := by decide +kernel
theorem d_EM_message_1 : decode b_EM_message 1 = .ok (.ifCond .lt 11, 3) := by decide +kernel
theorem d_EM_message_4 : decode b_EM_message 4 = .ok (.iload_n 1, 1) := by decide +kernel
theorem d_EM_message_5 : decode b_EM_message 5 = .ok (.aload_n 0, 1) := by decide +kernel
theorem d_EM_message_6 : decode b_EM_message 6 = .ok (.getfield 176, 3) := by decide +kernel
theorem d_EM_message_9 : decode b_EM_message 9 = .ok (.if_icmp .lt 5, 3) := by decide +kernel
theorem d_EM_message_12 : decode b_EM_message 12 = .ok (.iconst (-1), 1) := by decide +kernel
theorem d_EM_message_13 : decode b_EM_message 13 = .ok (.ireturn, 1) := by decide +kernel
theorem d_EM_message_14 : decode b_EM_message 14 = .ok (.aload_n 0, 1) := by decide +kernel
theorem d_EM_message_15 : decode b_EM_message 15 = .ok (.getfield 152, 3) := by decide +kernel
theorem d_EM_message_18 : decode b_EM_message 18 = .ok (.iload_n 1, 1) := by decide +kernel
theorem d_EM_message_19 : decode b_EM_message 19 = .ok (.iaload, 1) := by decide +kernel
theorem d_EM_message_20 : decode b_EM_message 20 = .ok (.istore_n 2, 1) := by decide +kernel
theorem d_EM_message_21 : decode b_EM_message 21 = .ok (.iload_n 2, 1) := by decide +kernel
theorem d_EM_message_22 : decode b_EM_message 22 = .ok (.iconst 4, 1) := by decide +kernel
theorem d_EM_message_23 : decode b_EM_message 23 = .ok (.if_icmp .eq 8, 3) := by decide +kernel
theorem d_EM_message_26 : decode b_EM_message 26 = .ok (.iload_n 2, 1) := by decide +kernel
theorem d_EM_message_27 : decode b_EM_message 27 = .ok (.iconst 5, 1) := by decide +kernel
theorem d_EM_message_28 : decode b_EM_message 28 = .ok (.if_icmp .lt 7, 3) := by decide +kernel
theorem d_EM_message_31 : decode b_EM_message 31 = .ok (.iconst 1, 1) := by decide +kernel
theorem d_EM_message_32 : decode b_EM_message 32 = .ok (.goto 4, 3) := by decide +kernel
theorem d_EM_message_35 : decode b_EM_message 35 = .ok (.iconst 0, 1) := by decide +kernel
theorem d_EM_message_36 : decode b_EM_message 36 = .ok (.istore_n 3, 1) := by decide +kernel
theorem d_EM_message_37 : decode b_EM_message 37 = .ok (.iload_n 2, 1) := by decide +kernel
theorem d_EM_message_38 : decode b_EM_message 38 = .ok (.bipush 16, 2) := by decide +kernel
theorem d_EM_message_40 : decode b_EM_message 40 = .ok (.aload_n 0, 1) := by decide +kernel
theorem d_EM_message_41 : decode b_EM_message 41 = .ok (.getfield 155, 3) := by decide +kernel
theorem d_EM_message_44 : decode b_EM_message 44 = .ok (.iload_n 1, 1) := by decide +kernel
theorem d_EM_message_45 : decode b_EM_message 45 = .ok (.iaload, 1) := by decide +kernel
theorem d_EM_message_46 : decode b_EM_message 46 = .ok (.imul, 1) := by decide +kernel
theorem d_EM_message_47 : decode b_EM_message 47 = .ok (.iadd, 1) := by decide +kernel
theorem d_EM_message_48 : decode b_EM_message 48 = .ok (.sipush 256, 3) := by decide +kernel
theorem d_EM_message_51 : decode b_EM_message 51 = .ok (.aload_n 0, 1) := by decide +kernel
theorem d_EM_message_52 : decode b_EM_message 52 = .ok (.getfield 158, 3) := by decide +kernel
theorem d_EM_message_55 : decode b_EM_message 55 = .ok (.iload_n 1, 1) := by decide +kernel
theorem d_EM_message_56 : decode b_EM_message 56 = .ok (.iaload, 1) := by decide +kernel
theorem d_EM_message_57 : decode b_EM_message 57 = .ok (.imul, 1) := by decide +kernel
theorem d_EM_message_58 : decode b_EM_message 58 = .ok (.iadd, 1) := by decide +kernel
theorem d_EM_message_59 : decode b_EM_message 59 = .ok (.iload_n 3, 1) := by decide +kernel
theorem d_EM_message_60 : decode b_EM_message 60 = .ok (.ifCond .eq 15, 3) := by decide +kernel
theorem d_EM_message_63 : decode b_EM_message 63 = .ok (.ldc 184, 2) := by decide +kernel
theorem d_EM_message_65 : decode b_EM_message 65 = .ok (.aload_n 0, 1) := by decide +kernel
theorem d_EM_message_66 : decode b_EM_message 66 = .ok (.getfield 161, 3) := by decide +kernel
theorem d_EM_message_69 : decode b_EM_message 69 = .ok (.iload_n 1, 1) := by decide +kernel
theorem d_EM_message_70 : decode b_EM_message 70 = .ok (.iaload, 1) := by decide +kernel
theorem d_EM_message_71 : decode b_EM_message 71 = .ok (.imul, 1) := by decide +kernel
theorem d_EM_message_72 : decode b_EM_message 72 = .ok (.goto 4, 3) := by decide +kernel
theorem d_EM_message_75 : decode b_EM_message 75 = .ok (.iconst 0, 1) := by decide +kernel
theorem d_EM_message_76 : decode b_EM_message 76 = .ok (.iadd, 1) := by decide +kernel
theorem d_EM_message_77 : decode b_EM_message 77 = .ok (.ireturn, 1) := by decide +kernel
theorem d_EM_lose_0 : decode b_EM_lose 0 = .ok (.iload_n 1, 1) := by decide +kernel
theorem d_EM_lose_1 : decode b_EM_lose 1 = .ok (.ifCond .lt 11, 3) := by decide +kernel
theorem d_EM_lose_4 : decode b_EM_lose 4 = .ok (.iload_n 1, 1) := by decide +kernel
theorem d_EM_lose_5 : decode b_EM_lose 5 = .ok (.aload_n 0, 1) := by decide +kernel
theorem d_EM_lose_6 : decode b_EM_lose 6 = .ok (.getfield 176, 3) := by decide +kernel
theorem d_EM_lose_9 : decode b_EM_lose 9 = .ok (.if_icmp .lt 5, 3) := by decide +kernel
theorem d_EM_lose_12 : decode b_EM_lose 12 = .ok (.iconst 0, 1) := by decide +kernel
theorem d_EM_lose_13 : decode b_EM_lose 13 = .ok (.ireturn, 1) := by decide +kernel
theorem d_EM_lose_14 : decode b_EM_lose 14 = .ok (.aload_n 0, 1) := by decide +kernel
theorem d_EM_lose_15 : decode b_EM_lose 15 = .ok (.iload_n 1, 1) := by decide +kernel
theorem d_EM_lose_16 : decode b_EM_lose 16 = .ok (.invokevirtual 185, 3) := by decide +kernel
theorem d_EM_lose_19 : decode b_EM_lose 19 = .ok (.iconst 1, 1) := by decide +kernel
theorem d_EM_lose_20 : decode b_EM_lose 20 = .ok (.ireturn, 1) := by decide +kernel
theorem d_EM_pushed_0 : decode b_EM_pushed 0 = .ok (.aload_n 0, 1) := by decide +kernel
theorem d_EM_pushed_1 : decode b_EM_pushed 1 = .ok (.getfield 167, 3) := by decide +kernel
theorem d_EM_pushed_4 : decode b_EM_pushed 4 = .ok (.bipush 24, 2) := by decide +kernel
theorem d_EM_pushed_6 : decode b_EM_pushed 6 = .ok (.iaload, 1) := by decide +kernel
theorem d_EM_pushed_7 : decode b_EM_pushed 7 = .ok (.aload_n 0, 1) := by decide +kernel
theorem d_EM_pushed_8 : decode b_EM_pushed 8 = .ok (.getfield 23, 3) := by decide +kernel
theorem d_EM_pushed_11 : decode b_EM_pushed 11 = .ok (.iload_n 1, 1) := by decide +kernel
theorem d_EM_pushed_12 : decode b_EM_pushed 12 = .ok (.iaload, 1) := by decide +kernel
theorem d_EM_pushed_13 : decode b_EM_pushed 13 = .ok (.if_icmp .ne 120, 3) := by decide +kernel
theorem d_EM_pushed_16 : decode b_EM_pushed 16 = .ok (.aload_n 0, 1) := by decide +kernel
theorem d_EM_pushed_17 : decode b_EM_pushed 17 = .ok (.getfield 26, 3) := by decide +kernel
theorem d_EM_pushed_20 : decode b_EM_pushed 20 = .ok (.iload_n 1, 1) := by decide +kernel
theorem d_EM_pushed_21 : decode b_EM_pushed 21 = .ok (.iaload, 1) := by decide +kernel
theorem d_EM_pushed_22 : decode b_EM_pushed 22 = .ok (.bipush 100, 2) := by decide +kernel
theorem d_EM_pushed_24 : decode b_EM_pushed 24 = .ok (.if_icmp .ge 109, 3) := by decide +kernel
theorem d_EM_pushed_27 : decode b_EM_pushed 27 = .ok (.bipush 100, 2) := by decide +kernel
theorem d_EM_pushed_29 : decode b_EM_pushed 29 = .ok (.iload_n 1, 1) := by decide +kernel
theorem d_EM_pushed_30 : decode b_EM_pushed 30 = .ok (.imul, 1) := by decide +kernel
theorem d_EM_pushed_31 : decode b_EM_pushed 31 = .ok (.aload_n 0, 1) := by decide +kernel
theorem d_EM_pushed_32 : decode b_EM_pushed 32 = .ok (.getfield 26, 3) := by decide +kernel
theorem d_EM_pushed_35 : decode b_EM_pushed 35 = .ok (.iload_n 1, 1) := by decide +kernel
theorem d_EM_pushed_36 : decode b_EM_pushed 36 = .ok (.iaload, 1) := by decide +kernel
theorem d_EM_pushed_37 : decode b_EM_pushed 37 = .ok (.iadd, 1) := by decide +kernel
theorem d_EM_pushed_38 : decode b_EM_pushed 38 = .ok (.istore 4, 2) := by decide +kernel
theorem d_EM_pushed_40 : decode b_EM_pushed 40 = .ok (.aload_n 0, 1) := by decide +kernel
theorem d_EM_pushed_41 : decode b_EM_pushed 41 = .ok (.getfield 26, 3) := by decide +kernel
theorem d_EM_pushed_44 : decode b_EM_pushed 44 = .ok (.iload_n 1, 1) := by decide +kernel
theorem d_EM_pushed_45 : decode b_EM_pushed 45 = .ok (.dup2, 1) := by decide +kernel
theorem d_EM_pushed_46 : decode b_EM_pushed 46 = .ok (.iaload, 1) := by decide +kernel
theorem d_EM_pushed_47 : decode b_EM_pushed 47 = .ok (.iconst 1, 1) := by decide +kernel
theorem d_EM_pushed_48 : decode b_EM_pushed 48 = .ok (.iadd, 1) := by decide +kernel
theorem d_EM_pushed_49 : decode b_EM_pushed 49 = .ok (.iastore, 1) := by decide +kernel
theorem d_EM_pushed_50 : decode b_EM_pushed 50 = .ok (.aload_n 0, 1) := by decide +kernel
theorem d_EM_pushed_51 : decode b_EM_pushed 51 = .ok (.getfield 29, 3) := by decide +kernel
theorem d_EM_pushed_54 : decode b_EM_pushed 54 = .ok (.iload 4, 2) := by decide +kernel
theorem d_EM_pushed_56 : decode b_EM_pushed 56 = .ok (.iload_n 3, 1) := by decide +kernel
theorem d_EM_pushed_57 : decode b_EM_pushed 57 = .ok (.iastore, 1) := by decide +kernel
theorem d_EM_pushed_58 : decode b_EM_pushed 58 = .ok (.aload_n 0, 1) := by decide +kernel
theorem d_EM_pushed_59 : decode b_EM_pushed 59 = .ok (.getfield 32, 3) := by decide +kernel
theorem d_EM_pushed_62 : decode b_EM_pushed 62 = .ok (.iload 4, 2) := by decide +kernel
theorem d_EM_pushed_64 : decode b_EM_pushed 64 = .ok (.aload_n 0, 1) := by decide +kernel
theorem d_EM_pushed_65 : decode b_EM_pushed 65 = .ok (.getfield 170, 3) := by decide +kernel
theorem d_EM_pushed_68 : decode b_EM_pushed 68 = .ok (.bipush 24, 2) := by decide +kernel
theorem d_EM_pushed_70 : decode b_EM_pushed 70 = .ok (.iaload, 1) := by decide +kernel
theorem d_EM_pushed_71 : decode b_EM_pushed 71 = .ok (.iastore, 1) := by decide +kernel
theorem d_EM_pushed_72 : decode b_EM_pushed 72 = .ok (.iconst 0, 1) := by decide +kernel
theorem d_EM_pushed_73 : decode b_EM_pushed 73 = .ok (.istore 5, 2) := by decide +kernel
theorem d_EM_pushed_75 : decode b_EM_pushed 75 = .ok (.iload 5, 2) := by decide +kernel
theorem d_EM_pushed_77 : decode b_EM_pushed 77 = .ok (.bipush 8, 2) := by decide +kernel
theorem d_EM_pushed_79 : decode b_EM_pushed 79 = .ok (.if_icmp .ge 33, 3) := by decide +kernel
theorem d_EM_pushed_82 : decode b_EM_pushed 82 = .ok (.aload_n 0, 1) := by decide +kernel
theorem d_EM_pushed_83 : decode b_EM_pushed 83 = .ok (.getfield 35, 3) := by decide +kernel
theorem d_EM_pushed_86 : decode b_EM_pushed 86 = .ok (.bipush 8, 2) := by decide +kernel
theorem d_EM_pushed_88 : decode b_EM_pushed 88 = .ok (.iload 4, 2) := by decide +kernel
theorem d_EM_pushed_90 : decode b_EM_pushed 90 = .ok (.imul, 1) := by decide +kernel
theorem d_EM_pushed_91 : decode b_EM_pushed 91 = .ok (.iload 5, 2) := by decide +kernel
theorem d_EM_pushed_93 : decode b_EM_pushed 93 = .ok (.iadd, 1) := by decide +kernel
theorem d_EM_pushed_94 : decode b_EM_pushed 94 = .ok (.aload_n 0, 1) := by decide +kernel
theorem d_EM_pushed_95 : decode b_EM_pushed 95 = .ok (.getfield 173, 3) := by decide +kernel
theorem d_EM_pushed_98 : decode b_EM_pushed 98 = .ok (.sipush 192, 3) := by decide +kernel
theorem d_EM_pushed_101 : decode b_EM_pushed 101 = .ok (.iload 5, 2) := by decide +kernel
theorem d_EM_pushed_103 : decode b_EM_pushed 103 = .ok (.iadd, 1) := by decide +kernel
theorem d_EM_pushed_104 : decode b_EM_pushed 104 = .ok (.iaload, 1) := by decide +kernel
theorem d_EM_pushed_105 : decode b_EM_pushed 105 = .ok (.iastore, 1) := by decide +kernel
theorem d_EM_pushed_106 : decode b_EM_pushed 106 = .ok (.iinc 5 1, 3) := by decide +kernel
theorem d_EM_pushed_109 : decode b_EM_pushed 109 = .ok (.goto (-34), 3) := by decide +kernel
theorem d_EM_pushed_112 : decode b_EM_pushed 112 = .ok (.aload_n 0, 1) := by decide +kernel
theorem d_EM_pushed_113 : decode b_EM_pushed 113 = .ok (.getfield 23, 3) := by decide +kernel
theorem d_EM_pushed_116 : decode b_EM_pushed 116 = .ok (.iload_n 1, 1) := by decide +kernel
theorem d_EM_pushed_117 : decode b_EM_pushed 117 = .ok (.iload_n 3, 1) := by decide +kernel
theorem d_EM_pushed_118 : decode b_EM_pushed 118 = .ok (.iastore, 1) := by decide +kernel
theorem d_EM_pushed_119 : decode b_EM_pushed 119 = .ok (.aload_n 0, 1) := by decide +kernel
theorem d_EM_pushed_120 : decode b_EM_pushed 120 = .ok (.bipush 7, 2) := by decide +kernel
theorem d_EM_pushed_122 : decode b_EM_pushed 122 = .ok (.iload_n 1, 1) := by decide +kernel
theorem d_EM_pushed_123 : decode b_EM_pushed 123 = .ok (.iload_n 2, 1) := by decide +kernel
theorem d_EM_pushed_124 : decode b_EM_pushed 124 = .ok (.iload_n 3, 1) := by decide +kernel
theorem d_EM_pushed_125 : decode b_EM_pushed 125 = .ok (.iconst 0, 1) := by decide +kernel
theorem d_EM_pushed_126 : decode b_EM_pushed 126 = .ok (.invokevirtual 193, 3) := by decide +kernel
theorem d_EM_pushed_129 : decode b_EM_pushed 129 = .ok (.pop, 1) := by decide +kernel
theorem d_EM_pushed_130 : decode b_EM_pushed 130 = .ok (.goto 24, 3) := by decide +kernel
theorem d_EM_pushed_133 : decode b_EM_pushed 133 = .ok (.iload_n 3, 1) := by decide +kernel
theorem d_EM_pushed_134 : decode b_EM_pushed 134 = .ok (.aload_n 0, 1) := by decide +kernel
theorem d_EM_pushed_135 : decode b_EM_pushed 135 = .ok (.getfield 23, 3) := by decide +kernel
theorem d_EM_pushed_138 : decode b_EM_pushed 138 = .ok (.iload_n 1, 1) := by decide +kernel
theorem d_EM_pushed_139 : decode b_EM_pushed 139 = .ok (.iaload, 1) := by decide +kernel
theorem d_EM_pushed_140 : decode b_EM_pushed 140 = .ok (.if_icmp .gt 14, 3) := by decide +kernel
theorem d_EM_pushed_143 : decode b_EM_pushed 143 = .ok (.aload_n 0, 1) := by decide +kernel
theorem d_EM_pushed_144 : decode b_EM_pushed 144 = .ok (.bipush 7, 2) := by decide +kernel
theorem d_EM_pushed_146 : decode b_EM_pushed 146 = .ok (.iload_n 1, 1) := by decide +kernel
theorem d_EM_pushed_147 : decode b_EM_pushed 147 = .ok (.iload_n 2, 1) := by decide +kernel
theorem d_EM_pushed_148 : decode b_EM_pushed 148 = .ok (.iload_n 3, 1) := by decide +kernel
theorem d_EM_pushed_149 : decode b_EM_pushed 149 = .ok (.iconst 0, 1) := by decide +kernel
theorem d_EM_pushed_150 : decode b_EM_pushed 150 = .ok (.invokevirtual 193, 3) := by decide +kernel
theorem d_EM_pushed_153 : decode b_EM_pushed 153 = .ok (.pop, 1) := by decide +kernel
theorem d_EM_pushed_154 : decode b_EM_pushed 154 = .ok (.return_, 1) := by decide +kernel
