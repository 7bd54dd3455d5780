theorem d_Message_reset_0 : decode b_Message_reset 0 = .ok (.aload_n 0, 1) := by decide +kernel
theorem d_Message_reset_1 : decode b_Message_reset 1 = .ok (.iload_n 1, 1) := by decide +kernel
theorem d_Message_reset_2 : decode b_Message_reset 2 = .ok (.putfield 7, 3) := by decide +kernel
theorem d_Message_reset_5 : decode b_Message_reset 5 = .ok (.aload_n 0, 1) := by decide +kernel
theorem d_Message_reset_6 : decode b_Message_reset 6 = .ok (.iload_n 2, 1) := by decide +kernel
theorem d_Message_reset_7 : decode b_Message_reset 7 = .ok (.putfield 13, 3) := by decide +kernel
theorem d_Message_reset_10 : decode b_Message_reset 10 = .ok (.aload_n 0, 1) := by decide +kernel
theorem d_Message_reset_11 : decode b_Message_reset 11 = .ok (.iload_n 3, 1) := by decide +kernel
theorem d_Message_reset_12 : decode b_Message_reset 12 = .ok (.putfield 16, 3) := by decide +kernel
theorem d_Message_reset_15 : decode b_Message_reset 15 = .ok (.aload_n 0, 1) := by decide +kernel
theorem d_Message_reset_16 : decode b_Message_reset 16 = .ok (.iconst 0, 1) := by decide +kernel
theorem d_Message_reset_17 : decode b_Message_reset 17 = .ok (.putfield 19, 3) := by decide +kernel
theorem d_Message_reset_20 : decode b_Message_reset 20 = .ok (.aload_n 0, 1) := by decide +kernel
theorem d_Message_reset_21 : decode b_Message_reset 21 = .ok (.iconst 0, 1) := by decide +kernel
theorem d_Message_reset_22 : decode b_Message_reset 22 = .ok (.putfield 22, 3) := by decide +kernel
theorem d_Message_reset_25 : decode b_Message_reset 25 = .ok (.aload_n 0, 1) := by decide +kernel
theorem d_Message_reset_26 : decode b_Message_reset 26 = .ok (.iconst 0, 1) := by decide +kernel
theorem d_Message_reset_27 : decode b_Message_reset 27 = .ok (.putfield 25, 3) := by decide +kernel
theorem d_Message_reset_30 : decode b_Message_reset 30 = .ok (.aload_n 0, 1) := by decide +kernel
theorem d_Message_reset_31 : decode b_Message_reset 31 = .ok (.iconst 0, 1) := by decide +kernel
theorem d_Message_reset_32 : decode b_Message_reset 32 = .ok (.putfield 28, 3) := by decide +kernel
theorem d_Message_reset_35 : decode b_Message_reset 35 = .ok (.aload_n 0, 1) := by decide +kernel
theorem d_Message_reset_36 : decode b_Message_reset 36 = .ok (.iconst 0, 1) := by decide +kernel
theorem d_Message_reset_37 : decode b_Message_reset 37 = .ok (.putfield 31, 3) := by decide +kernel
theorem d_Message_reset_40 : decode b_Message_reset 40 = .ok (.aload_n 0, 1) := by decide +kernel
theorem d_Message_reset_41 : decode b_Message_reset 41 = .ok (.aconst_null, 1) := by decide +kernel
theorem d_Message_reset_42 : decode b_Message_reset 42 = .ok (.putfield 34, 3) := by decide +kernel
theorem d_Message_reset_45 : decode b_Message_reset 45 = .ok (.aload_n 0, 1) := by decide +kernel
theorem d_Message_reset_46 : decode b_Message_reset 46 = .ok (.aconst_null, 1) := by decide +kernel
theorem d_Message_reset_47 : decode b_Message_reset 47 = .ok (.putfield 38, 3) := by decide +kernel
theorem d_Message_reset_50 : decode b_Message_reset 50 = .ok (.return_, 1) := by decide +kernel
theorem d_Line_send_0 : decode b_Line_send 0 = .ok (.aload_n 0, 1) := by decide +kernel
theorem d_Line_send_1 : decode b_Line_send 1 = .ok (.getfield 18, 3) := by decide +kernel
theorem d_Line_send_4 : decode b_Line_send 4 = .ok (.astore 4, 2) := by decide +kernel
theorem d_Line_send_6 : decode b_Line_send 6 = .ok (.aload_n 0, 1) := by decide +kernel
theorem d_Line_send_7 : decode b_Line_send 7 = .ok (.getfield 22, 3) := by decide +kernel
theorem d_Line_send_10 : decode b_Line_send 10 = .ok (.bipush 24, 2) := by decide +kernel
theorem d_Line_send_12 : decode b_Line_send 12 = .ok (.if_icmp .ge 24, 3) := by decide +kernel
theorem d_Line_send_15 : decode b_Line_send 15 = .ok (.aload_n 0, 1) := by decide +kernel
theorem d_Line_send_16 : decode b_Line_send 16 = .ok (.getfield 11, 3) := by decide +kernel
theorem d_Line_send_19 : decode b_Line_send 19 = .ok (.aload_n 0, 1) := by decide +kernel
theorem d_Line_send_20 : decode b_Line_send 20 = .ok (.getfield 22, 3) := by decide +kernel
theorem d_Line_send_23 : decode b_Line_send 23 = .ok (.aaload, 1) := by decide +kernel
theorem d_Line_send_24 : decode b_Line_send 24 = .ok (.astore 4, 2) := by decide +kernel
theorem d_Line_send_26 : decode b_Line_send 26 = .ok (.aload_n 0, 1) := by decide +kernel
theorem d_Line_send_27 : decode b_Line_send 27 = .ok (.dup, 1) := by decide +kernel
theorem d_Line_send_28 : decode b_Line_send 28 = .ok (.getfield 22, 3) := by decide +kernel
theorem d_Line_send_31 : decode b_Line_send 31 = .ok (.iconst 1, 1) := by decide +kernel
theorem d_Line_send_32 : decode b_Line_send 32 = .ok (.iadd, 1) := by decide +kernel
theorem d_Line_send_33 : decode b_Line_send 33 = .ok (.putfield 22, 3) := by decide +kernel
theorem d_Line_send_36 : decode b_Line_send 36 = .ok (.aload 4, 2) := by decide +kernel
theorem d_Line_send_38 : decode b_Line_send 38 = .ok (.iload_n 1, 1) := by decide +kernel
theorem d_Line_send_39 : decode b_Line_send 39 = .ok (.iload_n 2, 1) := by decide +kernel
theorem d_Line_send_40 : decode b_Line_send 40 = .ok (.iload_n 3, 1) := by decide +kernel
theorem d_Line_send_41 : decode b_Line_send 41 = .ok (.invokevirtual 26, 3) := by decide +kernel
theorem d_Line_send_44 : decode b_Line_send 44 = .ok (.aload 4, 2) := by decide +kernel
theorem d_Line_send_46 : decode b_Line_send 46 = .ok (.areturn, 1) := by decide +kernel
theorem d_Client_ask_0 : decode b_Client_ask 0 = .ok (.aload_n 0, 1) := by decide +kernel
theorem d_Client_ask_1 : decode b_Client_ask 1 = .ok (.dup, 1) := by decide +kernel
theorem d_Client_ask_2 : decode b_Client_ask 2 = .ok (.getfield 38, 3) := by decide +kernel
theorem d_Client_ask_5 : decode b_Client_ask 5 = .ok (.iconst 1, 1) := by decide +kernel
theorem d_Client_ask_6 : decode b_Client_ask 6 = .ok (.iadd, 1) := by decide +kernel
theorem d_Client_ask_7 : decode b_Client_ask 7 = .ok (.putfield 38, 3) := by decide +kernel
theorem d_Client_ask_10 : decode b_Client_ask 10 = .ok (.aload_n 0, 1) := by decide +kernel
theorem d_Client_ask_11 : decode b_Client_ask 11 = .ok (.iconst 1, 1) := by decide +kernel
theorem d_Client_ask_12 : decode b_Client_ask 12 = .ok (.putfield 15, 3) := by decide +kernel
theorem d_Client_ask_15 : decode b_Client_ask 15 = .ok (.aload_n 0, 1) := by decide +kernel
theorem d_Client_ask_16 : decode b_Client_ask 16 = .ok (.aload_n 0, 1) := by decide +kernel
theorem d_Client_ask_17 : decode b_Client_ask 17 = .ok (.getfield 9, 3) := by decide +kernel
theorem d_Client_ask_20 : decode b_Client_ask 20 = .ok (.putfield 18, 3) := by decide +kernel
theorem d_Client_ask_23 : decode b_Client_ask 23 = .ok (.aload_n 0, 1) := by decide +kernel
theorem d_Client_ask_24 : decode b_Client_ask 24 = .ok (.iconst 0, 1) := by decide +kernel
theorem d_Client_ask_25 : decode b_Client_ask 25 = .ok (.putfield 31, 3) := by decide +kernel
theorem d_Client_ask_28 : decode b_Client_ask 28 = .ok (.aload_n 0, 1) := by decide +kernel
theorem d_Client_ask_29 : decode b_Client_ask 29 = .ok (.iconst 0, 1) := by decide +kernel
theorem d_Client_ask_30 : decode b_Client_ask 30 = .ok (.putfield 35, 3) := by decide +kernel
theorem d_Client_ask_33 : decode b_Client_ask 33 = .ok (.aload_n 0, 1) := by decide +kernel
theorem d_Client_ask_34 : decode b_Client_ask 34 = .ok (.iconst 0, 1) := by decide +kernel
theorem d_Client_ask_35 : decode b_Client_ask 35 = .ok (.putfield 41, 3) := by decide +kernel
theorem d_Client_ask_38 : decode b_Client_ask 38 = .ok (.aload_n 0, 1) := by decide +kernel
theorem d_Client_ask_39 : decode b_Client_ask 39 = .ok (.new 21, 3) := by decide +kernel
theorem d_Client_ask_42 : decode b_Client_ask 42 = .ok (.dup, 1) := by decide +kernel
theorem d_Client_ask_43 : decode b_Client_ask 43 = .ok (.invokespecial 23, 3) := by decide +kernel
theorem d_Client_ask_46 : decode b_Client_ask 46 = .ok (.putfield 24, 3) := by decide +kernel
theorem d_Client_ask_49 : decode b_Client_ask 49 = .ok (.aload_n 1, 1) := by decide +kernel
theorem d_Client_ask_50 : decode b_Client_ask 50 = .ok (.iconst 1, 1) := by decide +kernel
theorem d_Client_ask_51 : decode b_Client_ask 51 = .ok (.aload_n 0, 1) := by decide +kernel
theorem d_Client_ask_52 : decode b_Client_ask 52 = .ok (.getfield 28, 3) := by decide +kernel
theorem d_Client_ask_55 : decode b_Client_ask 55 = .ok (.aload_n 0, 1) := by decide +kernel
theorem d_Client_ask_56 : decode b_Client_ask 56 = .ok (.getfield 9, 3) := by decide +kernel
theorem d_Client_ask_59 : decode b_Client_ask 59 = .ok (.invokevirtual 44, 3) := by decide +kernel
theorem d_Client_ask_62 : decode b_Client_ask 62 = .ok (.aload_n 0, 1) := by decide +kernel
theorem d_Client_ask_63 : decode b_Client_ask 63 = .ok (.getfield 38, 3) := by decide +kernel
theorem d_Client_ask_66 : decode b_Client_ask 66 = .ok (.putfield 50, 3) := by decide +kernel
theorem d_Client_ask_69 : decode b_Client_ask 69 = .ok (.return_, 1) := by decide +kernel
theorem d_ES_begin_0 : decode b_ES_begin 0 = .ok (.iload_n 1, 1) := by decide +kernel
theorem d_ES_begin_1 : decode b_ES_begin 1 = .ok (.invokestatic 59, 3) := by decide +kernel
theorem d_ES_begin_4 : decode b_ES_begin 4 = .ok (.ifCond .eq 15, 3) := by decide +kernel
theorem d_ES_begin_7 : decode b_ES_begin 7 = .ok (.aload_n 0, 1) := by decide +kernel
theorem d_ES_begin_8 : decode b_ES_begin 8 = .ok (.getfield 29, 3) := by decide +kernel
theorem d_ES_begin_11 : decode b_ES_begin 11 = .ok (.iload_n 1, 1) := by decide +kernel
theorem d_ES_begin_12 : decode b_ES_begin 12 = .ok (.aaload, 1) := by decide +kernel
theorem d_ES_begin_13 : decode b_ES_begin 13 = .ok (.invokevirtual 67, 3) := by decide +kernel
theorem d_ES_begin_16 : decode b_ES_begin 16 = .ok (.ifCond .eq 5, 3) := by decide +kernel
theorem d_ES_begin_19 : decode b_ES_begin 19 = .ok (.iconst 0, 1) := by decide +kernel
theorem d_ES_begin_20 : decode b_ES_begin 20 = .ok (.ireturn, 1) := by decide +kernel
theorem d_ES_begin_21 : decode b_ES_begin 21 = .ok (.aload_n 0, 1) := by decide +kernel
theorem d_ES_begin_22 : decode b_ES_begin 22 = .ok (.getfield 29, 3) := by decide +kernel
theorem d_ES_begin_25 : decode b_ES_begin 25 = .ok (.iload_n 1, 1) := by decide +kernel
theorem d_ES_begin_26 : decode b_ES_begin 26 = .ok (.aaload, 1) := by decide +kernel
theorem d_ES_begin_27 : decode b_ES_begin 27 = .ok (.aload_n 0, 1) := by decide +kernel
theorem d_ES_begin_28 : decode b_ES_begin 28 = .ok (.getfield 42, 3) := by decide +kernel
theorem d_ES_begin_31 : decode b_ES_begin 31 = .ok (.invokevirtual 71, 3) := by decide +kernel
theorem d_ES_begin_34 : decode b_ES_begin 34 = .ok (.iconst 1, 1) := by decide +kernel
theorem d_ES_begin_35 : decode b_ES_begin 35 = .ok (.ireturn, 1) := by decide +kernel
theorem d_ES_isOpen_0 : decode b_ES_isOpen 0 = .ok (.iload_n 1, 1) := by decide +kernel
theorem d_ES_isOpen_1 : decode b_ES_isOpen 1 = .ok (.invokestatic 59, 3) := by decide +kernel
theorem d_ES_isOpen_4 : decode b_ES_isOpen 4 = .ok (.ifCond .eq 20, 3) := by decide +kernel
theorem d_ES_isOpen_7 : decode b_ES_isOpen 7 = .ok (.aload_n 0, 1) := by decide +kernel
theorem d_ES_isOpen_8 : decode b_ES_isOpen 8 = .ok (.getfield 29, 3) := by decide +kernel
theorem d_ES_isOpen_11 : decode b_ES_isOpen 11 = .ok (.iload_n 1, 1) := by decide +kernel
theorem d_ES_isOpen_12 : decode b_ES_isOpen 12 = .ok (.aaload, 1) := by decide +kernel
theorem d_ES_isOpen_13 : decode b_ES_isOpen 13 = .ok (.getfield 202, 3) := by decide +kernel
theorem d_ES_isOpen_16 : decode b_ES_isOpen 16 = .ok (.iconst 2, 1) := by decide +kernel
theorem d_ES_isOpen_17 : decode b_ES_isOpen 17 = .ok (.if_icmp .ne 7, 3) := by decide +kernel
theorem d_ES_isOpen_20 : decode b_ES_isOpen 20 = .ok (.iconst 1, 1) := by decide +kernel
theorem d_ES_isOpen_21 : decode b_ES_isOpen 21 = .ok (.goto 4, 3) := by decide +kernel
theorem d_ES_isOpen_24 : decode b_ES_isOpen 24 = .ok (.iconst 0, 1) := by decide +kernel
theorem d_ES_isOpen_25 : decode b_ES_isOpen 25 = .ok (.ireturn, 1) := by decide +kernel
theorem d_ES_isKey_0 : decode b_ES_isKey 0 = .ok (.iload_n 0, 1) := by decide +kernel
theorem d_ES_isKey_1 : decode b_ES_isKey 1 = .ok (.ifCond .lt 13, 3) := by decide +kernel
theorem d_ES_isKey_4 : decode b_ES_isKey 4 = .ok (.iload_n 0, 1) := by decide +kernel
theorem d_ES_isKey_5 : decode b_ES_isKey 5 = .ok (.bipush 8, 2) := by decide +kernel
theorem d_ES_isKey_7 : decode b_ES_isKey 7 = .ok (.if_icmp .ge 7, 3) := by decide +kernel
theorem d_ES_isKey_10 : decode b_ES_isKey 10 = .ok (.iconst 1, 1) := by decide +kernel
theorem d_ES_isKey_11 : decode b_ES_isKey 11 = .ok (.goto 4, 3) := by decide +kernel
theorem d_ES_isKey_14 : decode b_ES_isKey 14 = .ok (.iconst 0, 1) := by decide +kernel
theorem d_ES_isKey_15 : decode b_ES_isKey 15 = .ok (.ireturn, 1) := by decide +kernel
theorem d_Writes_has_0 : decode b_Writes_has 0 = .ok (.aload_n 0, 1) := by decide +kernel
theorem d_Writes_has_1 : decode b_Writes_has 1 = .ok (.getfield 15, 3) := by decide +kernel
theorem d_Writes_has_4 : decode b_Writes_has 4 = .ok (.iconst 1, 1) := by decide +kernel
theorem d_Writes_has_5 : decode b_Writes_has 5 = .ok (.iload_n 1, 1) := by decide +kernel
theorem d_Writes_has_6 : decode b_Writes_has 6 = .ok (.ishl, 1) := by decide +kernel
theorem d_Writes_has_7 : decode b_Writes_has 7 = .ok (.iand, 1) := by decide +kernel
theorem d_Writes_has_8 : decode b_Writes_has 8 = .ok (.ifCond .eq 7, 3) := by decide +kernel
theorem d_Writes_has_11 : decode b_Writes_has 11 = .ok (.iconst 1, 1) := by decide +kernel
theorem d_Writes_has_12 : decode b_Writes_has 12 = .ok (.goto 4, 3) := by decide +kernel
theorem d_Writes_has_15 : decode b_Writes_has 15 = .ok (.iconst 0, 1) := by decide +kernel
theorem d_Writes_has_16 : decode b_Writes_has 16 = .ok (.ireturn, 1) := by decide +kernel
theorem d_Storage_valueAt_0 : decode b_Storage_valueAt 0 = .ok (.aload_n 0, 1) := by decide +kernel
theorem d_Storage_valueAt_1 : decode b_Storage_valueAt 1 = .ok (.getfield 9, 3) := by decide +kernel
theorem d_Storage_valueAt_4 : decode b_Storage_valueAt 4 = .ok (.ifCond .ne 7, 3) := by decide +kernel
theorem d_Storage_valueAt_7 : decode b_Storage_valueAt 7 = .ok (.ldc2_w 79, 3) := by decide +kernel
theorem d_Storage_valueAt_10 : decode b_Storage_valueAt 10 = .ok (.lreturn, 1) := by decide +kernel
theorem d_Storage_valueAt_11 : decode b_Storage_valueAt 11 = .ok (.aload_n 0, 1) := by decide +kernel
theorem d_Storage_valueAt_12 : decode b_Storage_valueAt 12 = .ok (.getfield 19, 3) := by decide +kernel
theorem d_Storage_valueAt_15 : decode b_Storage_valueAt 15 = .ok (.iload_n 2, 1) := by decide +kernel
theorem d_Storage_valueAt_16 : decode b_Storage_valueAt 16 = .ok (.if_icmp .lt 11, 3) := by decide +kernel
theorem d_Storage_valueAt_19 : decode b_Storage_valueAt 19 = .ok (.aload_n 0, 1) := by decide +kernel
theorem d_Storage_valueAt_20 : decode b_Storage_valueAt 20 = .ok (.getfield 15, 3) := by decide +kernel
theorem d_Storage_valueAt_23 : decode b_Storage_valueAt 23 = .ok (.iload_n 3, 1) := by decide +kernel
theorem d_Storage_valueAt_24 : decode b_Storage_valueAt 24 = .ok (.if_icmp .ge 7, 3) := by decide +kernel
theorem d_Storage_valueAt_27 : decode b_Storage_valueAt 27 = .ok (.ldc2_w 81, 3) := by decide +kernel
theorem d_Storage_valueAt_30 : decode b_Storage_valueAt 30 = .ok (.lreturn, 1) := by decide +kernel
theorem d_Storage_valueAt_31 : decode b_Storage_valueAt 31 = .ok (.iload_n 2, 1) := by decide +kernel
theorem d_Storage_valueAt_32 : decode b_Storage_valueAt 32 = .ok (.aload_n 0, 1) := by decide +kernel
theorem d_Storage_valueAt_33 : decode b_Storage_valueAt 33 = .ok (.getfield 19, 3) := by decide +kernel
theorem d_Storage_valueAt_36 : decode b_Storage_valueAt 36 = .ok (.bipush 12, 2) := by decide +kernel
theorem d_Storage_valueAt_38 : decode b_Storage_valueAt 38 = .ok (.isub, 1) := by decide +kernel
theorem d_Storage_valueAt_39 : decode b_Storage_valueAt 39 = .ok (.if_icmp .ge 7, 3) := by decide +kernel
theorem d_Storage_valueAt_42 : decode b_Storage_valueAt 42 = .ok (.ldc2_w 83, 3) := by decide +kernel
theorem d_Storage_valueAt_45 : decode b_Storage_valueAt 45 = .ok (.lreturn, 1) := by decide +kernel
theorem d_Storage_valueAt_46 : decode b_Storage_valueAt 46 = .ok (.aload_n 0, 1) := by decide +kernel
theorem d_Storage_valueAt_47 : decode b_Storage_valueAt 47 = .ok (.getfield 31, 3) := by decide +kernel
theorem d_Storage_valueAt_50 : decode b_Storage_valueAt 50 = .ok (.iconst 1, 1) := by decide +kernel
theorem d_Storage_valueAt_51 : decode b_Storage_valueAt 51 = .ok (.isub, 1) := by decide +kernel
theorem d_Storage_valueAt_52 : decode b_Storage_valueAt 52 = .ok (.istore 4, 2) := by decide +kernel
theorem d_Storage_valueAt_54 : decode b_Storage_valueAt 54 = .ok (.iload 4, 2) := by decide +kernel
theorem d_Storage_valueAt_56 : decode b_Storage_valueAt 56 = .ok (.ifCond .lt 57, 3) := by decide +kernel
theorem d_Storage_valueAt_59 : decode b_Storage_valueAt 59 = .ok (.aload_n 0, 1) := by decide +kernel
theorem d_Storage_valueAt_60 : decode b_Storage_valueAt 60 = .ok (.getfield 24, 3) := by decide +kernel
theorem d_Storage_valueAt_63 : decode b_Storage_valueAt 63 = .ok (.iload 4, 2) := by decide +kernel
theorem d_Storage_valueAt_65 : decode b_Storage_valueAt 65 = .ok (.aaload, 1) := by decide +kernel
theorem d_Storage_valueAt_66 : decode b_Storage_valueAt 66 = .ok (.getfield 55, 3) := by decide +kernel
theorem d_Storage_valueAt_69 : decode b_Storage_valueAt 69 = .ok (.iload_n 2, 1) := by decide +kernel
theorem d_Storage_valueAt_70 : decode b_Storage_valueAt 70 = .ok (.if_icmp .gt 37, 3) := by decide +kernel
theorem d_Storage_valueAt_73 : decode b_Storage_valueAt 73 = .ok (.aload_n 0, 1) := by decide +kernel
theorem d_Storage_valueAt_74 : decode b_Storage_valueAt 74 = .ok (.getfield 24, 3) := by decide +kernel
theorem d_Storage_valueAt_77 : decode b_Storage_valueAt 77 = .ok (.iload 4, 2) := by decide +kernel
theorem d_Storage_valueAt_79 : decode b_Storage_valueAt 79 = .ok (.aaload, 1) := by decide +kernel
theorem d_Storage_valueAt_80 : decode b_Storage_valueAt 80 = .ok (.getfield 70, 3) := by decide +kernel
theorem d_Storage_valueAt_83 : decode b_Storage_valueAt 83 = .ok (.iload_n 1, 1) := by decide +kernel
theorem d_Storage_valueAt_84 : decode b_Storage_valueAt 84 = .ok (.invokevirtual 85, 3) := by decide +kernel
theorem d_Storage_valueAt_87 : decode b_Storage_valueAt 87 = .ok (.ifCond .eq 20, 3) := by decide +kernel
theorem d_Storage_valueAt_90 : decode b_Storage_valueAt 90 = .ok (.aload_n 0, 1) := by decide +kernel
theorem d_Storage_valueAt_91 : decode b_Storage_valueAt 91 = .ok (.getfield 24, 3) := by decide +kernel
theorem d_Storage_valueAt_94 : decode b_Storage_valueAt 94 = .ok (.iload 4, 2) := by decide +kernel
theorem d_Storage_valueAt_96 : decode b_Storage_valueAt 96 = .ok (.aaload, 1) := by decide +kernel
theorem d_Storage_valueAt_97 : decode b_Storage_valueAt 97 = .ok (.getfield 70, 3) := by decide +kernel
theorem d_Storage_valueAt_100 : decode b_Storage_valueAt 100 = .ok (.getfield 89, 3) := by decide +kernel
theorem d_Storage_valueAt_103 : decode b_Storage_valueAt 103 = .ok (.iload_n 1, 1) := by decide +kernel
theorem d_Storage_valueAt_104 : decode b_Storage_valueAt 104 = .ok (.iaload, 1) := by decide +kernel
theorem d_Storage_valueAt_105 : decode b_Storage_valueAt 105 = .ok (.i2l, 1) := by decide +kernel
theorem d_Storage_valueAt_106 : decode b_Storage_valueAt 106 = .ok (.lreturn, 1) := by decide +kernel
theorem d_Storage_valueAt_107 : decode b_Storage_valueAt 107 = .ok (.iinc 4 (-1), 3) := by decide +kernel
theorem d_Storage_valueAt_110 : decode b_Storage_valueAt 110 = .ok (.goto (-56), 3) := by decide +kernel
theorem d_Storage_valueAt_113 : decode b_Storage_valueAt 113 = .ok (.lconst 0, 1) := by decide +kernel
theorem d_Storage_valueAt_114 : decode b_Storage_valueAt 114 = .ok (.lreturn, 1) := by decide +kernel
theorem d_ES_valueFor_0 : decode b_ES_valueFor 0 = .ok (.aload_n 1, 1) := by decide +kernel
theorem d_ES_valueFor_1 : decode b_ES_valueFor 1 = .ok (.getfield 94, 3) := by decide +kernel
theorem d_ES_valueFor_4 : decode b_ES_valueFor 4 = .ok (.iload_n 2, 1) := by decide +kernel
theorem d_ES_valueFor_5 : decode b_ES_valueFor 5 = .ok (.invokevirtual 207, 3) := by decide +kernel
theorem d_ES_valueFor_8 : decode b_ES_valueFor 8 = .ok (.ifCond .eq 14, 3) := by decide +kernel
theorem d_ES_valueFor_11 : decode b_ES_valueFor 11 = .ok (.aload_n 1, 1) := by decide +kernel
theorem d_ES_valueFor_12 : decode b_ES_valueFor 12 = .ok (.getfield 94, 3) := by decide +kernel
theorem d_ES_valueFor_15 : decode b_ES_valueFor 15 = .ok (.getfield 208, 3) := by decide +kernel
theorem d_ES_valueFor_18 : decode b_ES_valueFor 18 = .ok (.iload_n 2, 1) := by decide +kernel
theorem d_ES_valueFor_19 : decode b_ES_valueFor 19 = .ok (.iaload, 1) := by decide +kernel
theorem d_ES_valueFor_20 : decode b_ES_valueFor 20 = .ok (.i2l, 1) := by decide +kernel
theorem d_ES_valueFor_21 : decode b_ES_valueFor 21 = .ok (.lreturn, 1) := by decide +kernel
theorem d_ES_valueFor_22 : decode b_ES_valueFor 22 = .ok (.aload_n 0, 1) := by decide +kernel
theorem d_ES_valueFor_23 : decode b_ES_valueFor 23 = .ok (.getfield 23, 3) := by decide +kernel
theorem d_ES_valueFor_26 : decode b_ES_valueFor 26 = .ok (.iload_n 2, 1) := by decide +kernel
theorem d_ES_valueFor_27 : decode b_ES_valueFor 27 = .ok (.iconst 4, 1) := by decide +kernel
theorem d_ES_valueFor_28 : decode b_ES_valueFor 28 = .ok (.idiv, 1) := by decide +kernel
theorem d_ES_valueFor_29 : decode b_ES_valueFor 29 = .ok (.aaload, 1) := by decide +kernel
theorem d_ES_valueFor_30 : decode b_ES_valueFor 30 = .ok (.iload_n 2, 1) := by decide +kernel
theorem d_ES_valueFor_31 : decode b_ES_valueFor 31 = .ok (.aload_n 1, 1) := by decide +kernel
theorem d_ES_valueFor_32 : decode b_ES_valueFor 32 = .ok (.getfield 212, 3) := by decide +kernel
theorem d_ES_valueFor_35 : decode b_ES_valueFor 35 = .ok (.aload_n 1, 1) := by decide +kernel
theorem d_ES_valueFor_36 : decode b_ES_valueFor 36 = .ok (.getfield 215, 3) := by decide +kernel
theorem d_ES_valueFor_39 : decode b_ES_valueFor 39 = .ok (.invokevirtual 216, 3) := by decide +kernel
theorem d_ES_valueFor_42 : decode b_ES_valueFor 42 = .ok (.lreturn, 1) := by decide +kernel
theorem d_ES_isValue_0 : decode b_ES_isValue 0 = .ok (.lload_n 0, 1) := by decide +kernel
theorem d_ES_isValue_1 : decode b_ES_isValue 1 = .ok (.ldc2_w 200, 3) := by decide +kernel
theorem d_ES_isValue_4 : decode b_ES_isValue 4 = .ok (.lcmp, 1) := by decide +kernel
theorem d_ES_isValue_5 : decode b_ES_isValue 5 = .ok (.ifCond .ge 7, 3) := by decide +kernel
theorem d_ES_isValue_8 : decode b_ES_isValue 8 = .ok (.iconst 1, 1) := by decide +kernel
theorem d_ES_isValue_9 : decode b_ES_isValue 9 = .ok (.goto 4, 3) := by decide +kernel
theorem d_ES_isValue_12 : decode b_ES_isValue 12 = .ok (.iconst 0, 1) := by decide +kernel
theorem d_ES_isValue_13 : decode b_ES_isValue 13 = .ok (.ireturn, 1) := by decide +kernel
theorem d_Client_noteUnwritten_0 : decode b_Client_noteUnwritten 0 = .ok (.aload_n 0, 1) := by decide +kernel
theorem d_Client_noteUnwritten_1 : decode b_Client_noteUnwritten 1 = .ok (.getfield 24, 3) := by decide +kernel
theorem d_Client_noteUnwritten_4 : decode b_Client_noteUnwritten 4 = .ok (.iload_n 1, 1) := by decide +kernel
theorem d_Client_noteUnwritten_5 : decode b_Client_noteUnwritten 5 = .ok (.invokevirtual 53, 3) := by decide +kernel
theorem d_Client_noteUnwritten_8 : decode b_Client_noteUnwritten 8 = .ok (.ifCond .ne 15, 3) := by decide +kernel
theorem d_Client_noteUnwritten_11 : decode b_Client_noteUnwritten 11 = .ok (.aload_n 0, 1) := by decide +kernel
theorem d_Client_noteUnwritten_12 : decode b_Client_noteUnwritten 12 = .ok (.dup, 1) := by decide +kernel
theorem d_Client_noteUnwritten_13 : decode b_Client_noteUnwritten 13 = .ok (.getfield 41, 3) := by decide +kernel
theorem d_Client_noteUnwritten_16 : decode b_Client_noteUnwritten 16 = .ok (.iconst 1, 1) := by decide +kernel
theorem d_Client_noteUnwritten_17 : decode b_Client_noteUnwritten 17 = .ok (.iload_n 1, 1) := by decide +kernel
theorem d_Client_noteUnwritten_18 : decode b_Client_noteUnwritten 18 = .ok (.ishl, 1) := by decide +kernel
theorem d_Client_noteUnwritten_19 : decode b_Client_noteUnwritten 19 = .ok (.ior, 1) := by decide +kernel
theorem d_Client_noteUnwritten_20 : decode b_Client_noteUnwritten 20 = .ok (.putfield 41, 3) := by decide +kernel
theorem d_Client_noteUnwritten_23 : decode b_Client_noteUnwritten 23 = .ok (.return_, 1) := by decide +kernel
theorem d_ES_read_0 : decode b_ES_read 0 = .ok (.aload_n 0, 1) := by decide +kernel
theorem d_ES_read_1 : decode b_ES_read 1 = .ok (.iload_n 1, 1) := by decide +kernel
theorem d_ES_read_2 : decode b_ES_read 2 = .ok (.invokevirtual 75, 3) := by decide +kernel
theorem d_ES_read_5 : decode b_ES_read 5 = .ok (.ifCond .eq 10, 3) := by decide +kernel
theorem d_ES_read_8 : decode b_ES_read 8 = .ok (.iload_n 2, 1) := by decide +kernel
theorem d_ES_read_9 : decode b_ES_read 9 = .ok (.invokestatic 78, 3) := by decide +kernel
theorem d_ES_read_12 : decode b_ES_read 12 = .ok (.ifCond .ne 7, 3) := by decide +kernel
theorem d_ES_read_15 : decode b_ES_read 15 = .ok (.ldc2_w 81, 3) := by decide +kernel
theorem d_ES_read_18 : decode b_ES_read 18 = .ok (.lreturn, 1) := by decide +kernel
theorem d_ES_read_19 : decode b_ES_read 19 = .ok (.aload_n 0, 1) := by decide +kernel
theorem d_ES_read_20 : decode b_ES_read 20 = .ok (.aload_n 0, 1) := by decide +kernel
theorem d_ES_read_21 : decode b_ES_read 21 = .ok (.getfield 29, 3) := by decide +kernel
theorem d_ES_read_24 : decode b_ES_read 24 = .ok (.iload_n 1, 1) := by decide +kernel
theorem d_ES_read_25 : decode b_ES_read 25 = .ok (.aaload, 1) := by decide +kernel
theorem d_ES_read_26 : decode b_ES_read 26 = .ok (.iload_n 2, 1) := by decide +kernel
theorem d_ES_read_27 : decode b_ES_read 27 = .ok (.invokevirtual 83, 3) := by decide +kernel
theorem d_ES_read_30 : decode b_ES_read 30 = .ok (.lstore_n 3, 1) := by decide +kernel
theorem d_ES_read_31 : decode b_ES_read 31 = .ok (.lload_n 3, 1) := by decide +kernel
theorem d_ES_read_32 : decode b_ES_read 32 = .ok (.invokestatic 87, 3) := by decide +kernel
theorem d_ES_read_35 : decode b_ES_read 35 = .ok (.ifCond .eq 13, 3) := by decide +kernel
theorem d_ES_read_38 : decode b_ES_read 38 = .ok (.aload_n 0, 1) := by decide +kernel
theorem d_ES_read_39 : decode b_ES_read 39 = .ok (.getfield 29, 3) := by decide +kernel
theorem d_ES_read_42 : decode b_ES_read 42 = .ok (.iload_n 1, 1) := by decide +kernel
theorem d_ES_read_43 : decode b_ES_read 43 = .ok (.aaload, 1) := by decide +kernel
theorem d_ES_read_44 : decode b_ES_read 44 = .ok (.iload_n 2, 1) := by decide +kernel
theorem d_ES_read_45 : decode b_ES_read 45 = .ok (.invokevirtual 91, 3) := by decide +kernel
theorem d_ES_read_48 : decode b_ES_read 48 = .ok (.lload_n 3, 1) := by decide +kernel
theorem d_ES_read_49 : decode b_ES_read 49 = .ok (.lreturn, 1) := by decide +kernel
