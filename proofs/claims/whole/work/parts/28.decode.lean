theorem d_ES_deliver_0 : decode b_ES_deliver 0 = .ok (.aload_n 0, 1) := by decide +kernel
theorem d_ES_deliver_1 : decode b_ES_deliver 1 = .ok (.getfield 42, 3) := by decide +kernel
theorem d_ES_deliver_4 : decode b_ES_deliver 4 = .ok (.iload_n 1, 1) := by decide +kernel
theorem d_ES_deliver_5 : decode b_ES_deliver 5 = .ok (.invokevirtual 116, 3) := by decide +kernel
theorem d_ES_deliver_8 : decode b_ES_deliver 8 = .ok (.ifCond .ne 5, 3) := by decide +kernel
theorem d_ES_deliver_11 : decode b_ES_deliver 11 = .ok (.iconst (-1), 1) := by decide +kernel
theorem d_ES_deliver_12 : decode b_ES_deliver 12 = .ok (.ireturn, 1) := by decide +kernel
theorem d_ES_deliver_13 : decode b_ES_deliver 13 = .ok (.aload_n 0, 1) := by decide +kernel
theorem d_ES_deliver_14 : decode b_ES_deliver 14 = .ok (.getfield 42, 3) := by decide +kernel
theorem d_ES_deliver_17 : decode b_ES_deliver 17 = .ok (.iload_n 1, 1) := by decide +kernel
theorem d_ES_deliver_18 : decode b_ES_deliver 18 = .ok (.invokevirtual 126, 3) := by decide +kernel
theorem d_ES_deliver_21 : decode b_ES_deliver 21 = .ok (.astore_n 2, 1) := by decide +kernel
theorem d_ES_deliver_22 : decode b_ES_deliver 22 = .ok (.aload_n 2, 1) := by decide +kernel
theorem d_ES_deliver_23 : decode b_ES_deliver 23 = .ok (.getfield 130, 3) := by decide +kernel
theorem d_ES_deliver_26 : decode b_ES_deliver 26 = .ok (.tableswitch 78 2 8 #[42, 78, 62, 78, 42, 78, 62], 42) := by decide +kernel
theorem d_ES_deliver_68 : decode b_ES_deliver 68 = .ok (.aload_n 0, 1) := by decide +kernel
theorem d_ES_deliver_69 : decode b_ES_deliver 69 = .ok (.getfield 17, 3) := by decide +kernel
theorem d_ES_deliver_72 : decode b_ES_deliver 72 = .ok (.aload_n 2, 1) := by decide +kernel
theorem d_ES_deliver_73 : decode b_ES_deliver 73 = .ok (.getfield 133, 3) := by decide +kernel
theorem d_ES_deliver_76 : decode b_ES_deliver 76 = .ok (.aaload, 1) := by decide +kernel
theorem d_ES_deliver_77 : decode b_ES_deliver 77 = .ok (.aload_n 2, 1) := by decide +kernel
theorem d_ES_deliver_78 : decode b_ES_deliver 78 = .ok (.aload_n 0, 1) := by decide +kernel
theorem d_ES_deliver_79 : decode b_ES_deliver 79 = .ok (.getfield 42, 3) := by decide +kernel
theorem d_ES_deliver_82 : decode b_ES_deliver 82 = .ok (.invokevirtual 136, 3) := by decide +kernel
theorem d_ES_deliver_85 : decode b_ES_deliver 85 = .ok (.goto 47, 3) := by decide +kernel
theorem d_ES_deliver_88 : decode b_ES_deliver 88 = .ok (.aload_n 0, 1) := by decide +kernel
theorem d_ES_deliver_89 : decode b_ES_deliver 89 = .ok (.getfield 29, 3) := by decide +kernel
theorem d_ES_deliver_92 : decode b_ES_deliver 92 = .ok (.aload_n 2, 1) := by decide +kernel
theorem d_ES_deliver_93 : decode b_ES_deliver 93 = .ok (.getfield 133, 3) := by decide +kernel
theorem d_ES_deliver_96 : decode b_ES_deliver 96 = .ok (.aaload, 1) := by decide +kernel
theorem d_ES_deliver_97 : decode b_ES_deliver 97 = .ok (.aload_n 2, 1) := by decide +kernel
theorem d_ES_deliver_98 : decode b_ES_deliver 98 = .ok (.invokevirtual 140, 3) := by decide +kernel
theorem d_ES_deliver_101 : decode b_ES_deliver 101 = .ok (.goto 31, 3) := by decide +kernel
theorem d_ES_deliver_104 : decode b_ES_deliver 104 = .ok (.aload_n 0, 1) := by decide +kernel
theorem d_ES_deliver_105 : decode b_ES_deliver 105 = .ok (.aload_n 2, 1) := by decide +kernel
theorem d_ES_deliver_106 : decode b_ES_deliver 106 = .ok (.getfield 143, 3) := by decide +kernel
theorem d_ES_deliver_109 : decode b_ES_deliver 109 = .ok (.invokevirtual 146, 3) := by decide +kernel
theorem d_ES_deliver_112 : decode b_ES_deliver 112 = .ok (.ifCond .eq 20, 3) := by decide +kernel
theorem d_ES_deliver_115 : decode b_ES_deliver 115 = .ok (.aload_n 0, 1) := by decide +kernel
theorem d_ES_deliver_116 : decode b_ES_deliver 116 = .ok (.getfield 35, 3) := by decide +kernel
theorem d_ES_deliver_119 : decode b_ES_deliver 119 = .ok (.aload_n 2, 1) := by decide +kernel
theorem d_ES_deliver_120 : decode b_ES_deliver 120 = .ok (.getfield 143, 3) := by decide +kernel
theorem d_ES_deliver_123 : decode b_ES_deliver 123 = .ok (.aaload, 1) := by decide +kernel
theorem d_ES_deliver_124 : decode b_ES_deliver 124 = .ok (.aload_n 2, 1) := by decide +kernel
theorem d_ES_deliver_125 : decode b_ES_deliver 125 = .ok (.aload_n 0, 1) := by decide +kernel
theorem d_ES_deliver_126 : decode b_ES_deliver 126 = .ok (.getfield 42, 3) := by decide +kernel
theorem d_ES_deliver_129 : decode b_ES_deliver 129 = .ok (.invokevirtual 149, 3) := by decide +kernel
theorem d_ES_deliver_132 : decode b_ES_deliver 132 = .ok (.aload_n 2, 1) := by decide +kernel
theorem d_ES_deliver_133 : decode b_ES_deliver 133 = .ok (.getfield 130, 3) := by decide +kernel
theorem d_ES_deliver_136 : decode b_ES_deliver 136 = .ok (.ireturn, 1) := by decide +kernel
theorem d_ES_lose_0 : decode b_ES_lose 0 = .ok (.aload_n 0, 1) := by decide +kernel
theorem d_ES_lose_1 : decode b_ES_lose 1 = .ok (.getfield 42, 3) := by decide +kernel
theorem d_ES_lose_4 : decode b_ES_lose 4 = .ok (.iload_n 1, 1) := by decide +kernel
theorem d_ES_lose_5 : decode b_ES_lose 5 = .ok (.invokevirtual 116, 3) := by decide +kernel
theorem d_ES_lose_8 : decode b_ES_lose 8 = .ok (.ifCond .ne 5, 3) := by decide +kernel
theorem d_ES_lose_11 : decode b_ES_lose 11 = .ok (.iconst 0, 1) := by decide +kernel
theorem d_ES_lose_12 : decode b_ES_lose 12 = .ok (.ireturn, 1) := by decide +kernel
theorem d_ES_lose_13 : decode b_ES_lose 13 = .ok (.aload_n 0, 1) := by decide +kernel
theorem d_ES_lose_14 : decode b_ES_lose 14 = .ok (.getfield 42, 3) := by decide +kernel
theorem d_ES_lose_17 : decode b_ES_lose 17 = .ok (.iload_n 1, 1) := by decide +kernel
theorem d_ES_lose_18 : decode b_ES_lose 18 = .ok (.invokevirtual 126, 3) := by decide +kernel
theorem d_ES_lose_21 : decode b_ES_lose 21 = .ok (.pop, 1) := by decide +kernel
theorem d_ES_lose_22 : decode b_ES_lose 22 = .ok (.iconst 1, 1) := by decide +kernel
theorem d_ES_lose_23 : decode b_ES_lose 23 = .ok (.ireturn, 1) := by decide +kernel
theorem d_ES_stopMaster_0 : decode b_ES_stopMaster 0 = .ok (.aload_n 0, 1) := by decide +kernel
theorem d_ES_stopMaster_1 : decode b_ES_stopMaster 1 = .ok (.iload_n 1, 1) := by decide +kernel
theorem d_ES_stopMaster_2 : decode b_ES_stopMaster 2 = .ok (.invokevirtual 146, 3) := by decide +kernel
theorem d_ES_stopMaster_5 : decode b_ES_stopMaster 5 = .ok (.ifCond .ne 5, 3) := by decide +kernel
theorem d_ES_stopMaster_8 : decode b_ES_stopMaster 8 = .ok (.iconst 0, 1) := by decide +kernel
theorem d_ES_stopMaster_9 : decode b_ES_stopMaster 9 = .ok (.ireturn, 1) := by decide +kernel
theorem d_ES_stopMaster_10 : decode b_ES_stopMaster 10 = .ok (.aload_n 0, 1) := by decide +kernel
theorem d_ES_stopMaster_11 : decode b_ES_stopMaster 11 = .ok (.getfield 35, 3) := by decide +kernel
theorem d_ES_stopMaster_14 : decode b_ES_stopMaster 14 = .ok (.iload_n 1, 1) := by decide +kernel
theorem d_ES_stopMaster_15 : decode b_ES_stopMaster 15 = .ok (.aconst_null, 1) := by decide +kernel
theorem d_ES_stopMaster_16 : decode b_ES_stopMaster 16 = .ok (.aastore, 1) := by decide +kernel
theorem d_ES_stopMaster_17 : decode b_ES_stopMaster 17 = .ok (.iconst 1, 1) := by decide +kernel
theorem d_ES_stopMaster_18 : decode b_ES_stopMaster 18 = .ok (.ireturn, 1) := by decide +kernel
theorem d_ES_isCoordinator_0 : decode b_ES_isCoordinator 0 = .ok (.iload_n 0, 1) := by decide +kernel
theorem d_ES_isCoordinator_1 : decode b_ES_isCoordinator 1 = .ok (.ifCond .lt 12, 3) := by decide +kernel
theorem d_ES_isCoordinator_4 : decode b_ES_isCoordinator 4 = .ok (.iload_n 0, 1) := by decide +kernel
theorem d_ES_isCoordinator_5 : decode b_ES_isCoordinator 5 = .ok (.iconst 3, 1) := by decide +kernel
theorem d_ES_isCoordinator_6 : decode b_ES_isCoordinator 6 = .ok (.if_icmp .ge 7, 3) := by decide +kernel
theorem d_ES_isCoordinator_9 : decode b_ES_isCoordinator 9 = .ok (.iconst 1, 1) := by decide +kernel
theorem d_ES_isCoordinator_10 : decode b_ES_isCoordinator 10 = .ok (.goto 4, 3) := by decide +kernel
theorem d_ES_isCoordinator_13 : decode b_ES_isCoordinator 13 = .ok (.iconst 0, 1) := by decide +kernel
theorem d_ES_isCoordinator_14 : decode b_ES_isCoordinator 14 = .ok (.ireturn, 1) := by decide +kernel
theorem d_ES_isLog_0 : decode b_ES_isLog 0 = .ok (.iload_n 0, 1) := by decide +kernel
theorem d_ES_isLog_1 : decode b_ES_isLog 1 = .ok (.ifCond .lt 12, 3) := by decide +kernel
theorem d_ES_isLog_4 : decode b_ES_isLog 4 = .ok (.iload_n 0, 1) := by decide +kernel
theorem d_ES_isLog_5 : decode b_ES_isLog 5 = .ok (.iconst 3, 1) := by decide +kernel
theorem d_ES_isLog_6 : decode b_ES_isLog 6 = .ok (.if_icmp .ge 7, 3) := by decide +kernel
theorem d_ES_isLog_9 : decode b_ES_isLog 9 = .ok (.iconst 1, 1) := by decide +kernel
theorem d_ES_isLog_10 : decode b_ES_isLog 10 = .ok (.goto 4, 3) := by decide +kernel
theorem d_ES_isLog_13 : decode b_ES_isLog 13 = .ok (.iconst 0, 1) := by decide +kernel
theorem d_ES_isLog_14 : decode b_ES_isLog 14 = .ok (.ireturn, 1) := by decide +kernel
theorem d_ES_isStorage_0 : decode b_ES_isStorage 0 = .ok (.iload_n 0, 1) := by decide +kernel
theorem d_ES_isStorage_1 : decode b_ES_isStorage 1 = .ok (.ifCond .lt 12, 3) := by decide +kernel
theorem d_ES_isStorage_4 : decode b_ES_isStorage 4 = .ok (.iload_n 0, 1) := by decide +kernel
theorem d_ES_isStorage_5 : decode b_ES_isStorage 5 = .ok (.iconst 2, 1) := by decide +kernel
theorem d_ES_isStorage_6 : decode b_ES_isStorage 6 = .ok (.if_icmp .ge 7, 3) := by decide +kernel
theorem d_ES_isStorage_9 : decode b_ES_isStorage 9 = .ok (.iconst 1, 1) := by decide +kernel
theorem d_ES_isStorage_10 : decode b_ES_isStorage 10 = .ok (.goto 4, 3) := by decide +kernel
theorem d_ES_isStorage_13 : decode b_ES_isStorage 13 = .ok (.iconst 0, 1) := by decide +kernel
theorem d_ES_isStorage_14 : decode b_ES_isStorage 14 = .ok (.ireturn, 1) := by decide +kernel
theorem d_ES_isServer_0 : decode b_ES_isServer 0 = .ok (.iload_n 0, 1) := by decide +kernel
theorem d_ES_isServer_1 : decode b_ES_isServer 1 = .ok (.tableswitch 42 0 2 #[27, 32, 37], 27) := by decide +kernel
theorem d_ES_isServer_28 : decode b_ES_isServer 28 = .ok (.iload_n 1, 1) := by decide +kernel
theorem d_ES_isServer_29 : decode b_ES_isServer 29 = .ok (.invokestatic 196, 3) := by decide +kernel
theorem d_ES_isServer_32 : decode b_ES_isServer 32 = .ok (.ireturn, 1) := by decide +kernel
theorem d_ES_isServer_33 : decode b_ES_isServer 33 = .ok (.iload_n 1, 1) := by decide +kernel
theorem d_ES_isServer_34 : decode b_ES_isServer 34 = .ok (.invokestatic 167, 3) := by decide +kernel
theorem d_ES_isServer_37 : decode b_ES_isServer 37 = .ok (.ireturn, 1) := by decide +kernel
theorem d_ES_isServer_38 : decode b_ES_isServer 38 = .ok (.iload_n 1, 1) := by decide +kernel
theorem d_ES_isServer_39 : decode b_ES_isServer 39 = .ok (.invokestatic 164, 3) := by decide +kernel
theorem d_ES_isServer_42 : decode b_ES_isServer 42 = .ok (.ireturn, 1) := by decide +kernel
theorem d_ES_isServer_43 : decode b_ES_isServer 43 = .ok (.iconst 0, 1) := by decide +kernel
theorem d_ES_isServer_44 : decode b_ES_isServer 44 = .ok (.ireturn, 1) := by decide +kernel
theorem d_ES_isUp_0 : decode b_ES_isUp 0 = .ok (.iload_n 1, 1) := by decide +kernel
theorem d_ES_isUp_1 : decode b_ES_isUp 1 = .ok (.lookupswitch 47 #[(0, 27), (1, 37)], 27) := by decide +kernel
theorem d_ES_isUp_28 : decode b_ES_isUp 28 = .ok (.aload_n 0, 1) := by decide +kernel
theorem d_ES_isUp_29 : decode b_ES_isUp 29 = .ok (.getfield 11, 3) := by decide +kernel
theorem d_ES_isUp_32 : decode b_ES_isUp 32 = .ok (.iload_n 2, 1) := by decide +kernel
theorem d_ES_isUp_33 : decode b_ES_isUp 33 = .ok (.aaload, 1) := by decide +kernel
theorem d_ES_isUp_34 : decode b_ES_isUp 34 = .ok (.getfield 205, 3) := by decide +kernel
theorem d_ES_isUp_37 : decode b_ES_isUp 37 = .ok (.ireturn, 1) := by decide +kernel
theorem d_ES_isUp_38 : decode b_ES_isUp 38 = .ok (.aload_n 0, 1) := by decide +kernel
theorem d_ES_isUp_39 : decode b_ES_isUp 39 = .ok (.getfield 17, 3) := by decide +kernel
theorem d_ES_isUp_42 : decode b_ES_isUp 42 = .ok (.iload_n 2, 1) := by decide +kernel
theorem d_ES_isUp_43 : decode b_ES_isUp 43 = .ok (.aaload, 1) := by decide +kernel
theorem d_ES_isUp_44 : decode b_ES_isUp 44 = .ok (.getfield 178, 3) := by decide +kernel
theorem d_ES_isUp_47 : decode b_ES_isUp 47 = .ok (.ireturn, 1) := by decide +kernel
theorem d_ES_isUp_48 : decode b_ES_isUp 48 = .ok (.aload_n 0, 1) := by decide +kernel
theorem d_ES_isUp_49 : decode b_ES_isUp 49 = .ok (.getfield 23, 3) := by decide +kernel
theorem d_ES_isUp_52 : decode b_ES_isUp 52 = .ok (.iload_n 2, 1) := by decide +kernel
theorem d_ES_isUp_53 : decode b_ES_isUp 53 = .ok (.aaload, 1) := by decide +kernel
theorem d_ES_isUp_54 : decode b_ES_isUp 54 = .ok (.getfield 206, 3) := by decide +kernel
theorem d_ES_isUp_57 : decode b_ES_isUp 57 = .ok (.ireturn, 1) := by decide +kernel
theorem d_ES_setUp_0 : decode b_ES_setUp 0 = .ok (.iload_n 1, 1) := by decide +kernel
theorem d_ES_setUp_1 : decode b_ES_setUp 1 = .ok (.lookupswitch 53 #[(0, 27), (1, 40)], 27) := by decide +kernel
theorem d_ES_setUp_28 : decode b_ES_setUp 28 = .ok (.aload_n 0, 1) := by decide +kernel
theorem d_ES_setUp_29 : decode b_ES_setUp 29 = .ok (.getfield 11, 3) := by decide +kernel
theorem d_ES_setUp_32 : decode b_ES_setUp 32 = .ok (.iload_n 2, 1) := by decide +kernel
theorem d_ES_setUp_33 : decode b_ES_setUp 33 = .ok (.aaload, 1) := by decide +kernel
theorem d_ES_setUp_34 : decode b_ES_setUp 34 = .ok (.iload_n 3, 1) := by decide +kernel
theorem d_ES_setUp_35 : decode b_ES_setUp 35 = .ok (.putfield 205, 3) := by decide +kernel
theorem d_ES_setUp_38 : decode b_ES_setUp 38 = .ok (.goto 26, 3) := by decide +kernel
theorem d_ES_setUp_41 : decode b_ES_setUp 41 = .ok (.aload_n 0, 1) := by decide +kernel
theorem d_ES_setUp_42 : decode b_ES_setUp 42 = .ok (.getfield 17, 3) := by decide +kernel
theorem d_ES_setUp_45 : decode b_ES_setUp 45 = .ok (.iload_n 2, 1) := by decide +kernel
theorem d_ES_setUp_46 : decode b_ES_setUp 46 = .ok (.aaload, 1) := by decide +kernel
theorem d_ES_setUp_47 : decode b_ES_setUp 47 = .ok (.iload_n 3, 1) := by decide +kernel
theorem d_ES_setUp_48 : decode b_ES_setUp 48 = .ok (.putfield 178, 3) := by decide +kernel
theorem d_ES_setUp_51 : decode b_ES_setUp 51 = .ok (.goto 13, 3) := by decide +kernel
theorem d_ES_setUp_54 : decode b_ES_setUp 54 = .ok (.aload_n 0, 1) := by decide +kernel
theorem d_ES_setUp_55 : decode b_ES_setUp 55 = .ok (.getfield 23, 3) := by decide +kernel
theorem d_ES_setUp_58 : decode b_ES_setUp 58 = .ok (.iload_n 2, 1) := by decide +kernel
theorem d_ES_setUp_59 : decode b_ES_setUp 59 = .ok (.aaload, 1) := by decide +kernel
theorem d_ES_setUp_60 : decode b_ES_setUp 60 = .ok (.iload_n 3, 1) := by decide +kernel
theorem d_ES_setUp_61 : decode b_ES_setUp 61 = .ok (.putfield 206, 3) := by decide +kernel
theorem d_ES_setUp_64 : decode b_ES_setUp 64 = .ok (.return_, 1) := by decide +kernel
theorem d_ES_stop_0 : decode b_ES_stop 0 = .ok (.iload_n 1, 1) := by decide +kernel
theorem d_ES_stop_1 : decode b_ES_stop 1 = .ok (.iconst 3, 1) := by decide +kernel
theorem d_ES_stop_2 : decode b_ES_stop 2 = .ok (.if_icmp .ne 9, 3) := by decide +kernel
theorem d_ES_stop_5 : decode b_ES_stop 5 = .ok (.aload_n 0, 1) := by decide +kernel
theorem d_ES_stop_6 : decode b_ES_stop 6 = .ok (.iload_n 2, 1) := by decide +kernel
theorem d_ES_stop_7 : decode b_ES_stop 7 = .ok (.invokevirtual 150, 3) := by decide +kernel
theorem d_ES_stop_10 : decode b_ES_stop 10 = .ok (.ireturn, 1) := by decide +kernel
theorem d_ES_stop_11 : decode b_ES_stop 11 = .ok (.iload_n 1, 1) := by decide +kernel
theorem d_ES_stop_12 : decode b_ES_stop 12 = .ok (.iload_n 2, 1) := by decide +kernel
theorem d_ES_stop_13 : decode b_ES_stop 13 = .ok (.invokestatic 153, 3) := by decide +kernel
theorem d_ES_stop_16 : decode b_ES_stop 16 = .ok (.ifCond .eq 12, 3) := by decide +kernel
theorem d_ES_stop_19 : decode b_ES_stop 19 = .ok (.aload_n 0, 1) := by decide +kernel
theorem d_ES_stop_20 : decode b_ES_stop 20 = .ok (.iload_n 1, 1) := by decide +kernel
theorem d_ES_stop_21 : decode b_ES_stop 21 = .ok (.iload_n 2, 1) := by decide +kernel
theorem d_ES_stop_22 : decode b_ES_stop 22 = .ok (.invokevirtual 157, 3) := by decide +kernel
theorem d_ES_stop_25 : decode b_ES_stop 25 = .ok (.ifCond .ne 5, 3) := by decide +kernel
theorem d_ES_stop_28 : decode b_ES_stop 28 = .ok (.iconst 0, 1) := by decide +kernel
theorem d_ES_stop_29 : decode b_ES_stop 29 = .ok (.ireturn, 1) := by decide +kernel
theorem d_ES_stop_30 : decode b_ES_stop 30 = .ok (.aload_n 0, 1) := by decide +kernel
theorem d_ES_stop_31 : decode b_ES_stop 31 = .ok (.iload_n 1, 1) := by decide +kernel
theorem d_ES_stop_32 : decode b_ES_stop 32 = .ok (.iload_n 2, 1) := by decide +kernel
theorem d_ES_stop_33 : decode b_ES_stop 33 = .ok (.iconst 0, 1) := by decide +kernel
theorem d_ES_stop_34 : decode b_ES_stop 34 = .ok (.invokevirtual 160, 3) := by decide +kernel
theorem d_ES_stop_37 : decode b_ES_stop 37 = .ok (.iconst 1, 1) := by decide +kernel
theorem d_ES_stop_38 : decode b_ES_stop 38 = .ok (.ireturn, 1) := by decide +kernel
theorem d_ES_start_0 : decode b_ES_start 0 = .ok (.iload_n 1, 1) := by decide +kernel
theorem d_ES_start_1 : decode b_ES_start 1 = .ok (.iload_n 2, 1) := by decide +kernel
theorem d_ES_start_2 : decode b_ES_start 2 = .ok (.invokestatic 153, 3) := by decide +kernel
theorem d_ES_start_5 : decode b_ES_start 5 = .ok (.ifCond .eq 12, 3) := by decide +kernel
theorem d_ES_start_8 : decode b_ES_start 8 = .ok (.aload_n 0, 1) := by decide +kernel
theorem d_ES_start_9 : decode b_ES_start 9 = .ok (.iload_n 1, 1) := by decide +kernel
theorem d_ES_start_10 : decode b_ES_start 10 = .ok (.iload_n 2, 1) := by decide +kernel
theorem d_ES_start_11 : decode b_ES_start 11 = .ok (.invokevirtual 157, 3) := by decide +kernel
theorem d_ES_start_14 : decode b_ES_start 14 = .ok (.ifCond .eq 5, 3) := by decide +kernel
theorem d_ES_start_17 : decode b_ES_start 17 = .ok (.iconst 0, 1) := by decide +kernel
theorem d_ES_start_18 : decode b_ES_start 18 = .ok (.ireturn, 1) := by decide +kernel
theorem d_ES_start_19 : decode b_ES_start 19 = .ok (.aload_n 0, 1) := by decide +kernel
theorem d_ES_start_20 : decode b_ES_start 20 = .ok (.iload_n 1, 1) := by decide +kernel
theorem d_ES_start_21 : decode b_ES_start 21 = .ok (.iload_n 2, 1) := by decide +kernel
theorem d_ES_start_22 : decode b_ES_start 22 = .ok (.iconst 1, 1) := by decide +kernel
theorem d_ES_start_23 : decode b_ES_start 23 = .ok (.invokevirtual 160, 3) := by decide +kernel
theorem d_ES_start_26 : decode b_ES_start 26 = .ok (.iconst 1, 1) := by decide +kernel
theorem d_ES_start_27 : decode b_ES_start 27 = .ok (.ireturn, 1) := by decide +kernel
