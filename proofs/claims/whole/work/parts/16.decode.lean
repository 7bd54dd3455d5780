theorem d_ES_init_0 : decode b_ES_init 0 = .ok (.aload_n 0, 1) := by decide +kernel
theorem d_ES_init_1 : decode b_ES_init 1 = .ok (.invokespecial 1, 3) := by decide +kernel
theorem d_ES_init_4 : decode b_ES_init 4 = .ok (.aload_n 0, 1) := by decide +kernel
theorem d_ES_init_5 : decode b_ES_init 5 = .ok (.iconst 3, 1) := by decide +kernel
theorem d_ES_init_6 : decode b_ES_init 6 = .ok (.anewarray 9, 3) := by decide +kernel
theorem d_ES_init_9 : decode b_ES_init 9 = .ok (.putfield 11, 3) := by decide +kernel
theorem d_ES_init_12 : decode b_ES_init 12 = .ok (.aload_n 0, 1) := by decide +kernel
theorem d_ES_init_13 : decode b_ES_init 13 = .ok (.iconst 3, 1) := by decide +kernel
theorem d_ES_init_14 : decode b_ES_init 14 = .ok (.anewarray 15, 3) := by decide +kernel
theorem d_ES_init_17 : decode b_ES_init 17 = .ok (.putfield 17, 3) := by decide +kernel
theorem d_ES_init_20 : decode b_ES_init 20 = .ok (.aload_n 0, 1) := by decide +kernel
theorem d_ES_init_21 : decode b_ES_init 21 = .ok (.iconst 2, 1) := by decide +kernel
theorem d_ES_init_22 : decode b_ES_init 22 = .ok (.anewarray 21, 3) := by decide +kernel
theorem d_ES_init_25 : decode b_ES_init 25 = .ok (.putfield 23, 3) := by decide +kernel
theorem d_ES_init_28 : decode b_ES_init 28 = .ok (.aload_n 0, 1) := by decide +kernel
theorem d_ES_init_29 : decode b_ES_init 29 = .ok (.iconst 3, 1) := by decide +kernel
theorem d_ES_init_30 : decode b_ES_init 30 = .ok (.anewarray 27, 3) := by decide +kernel
theorem d_ES_init_33 : decode b_ES_init 33 = .ok (.putfield 29, 3) := by decide +kernel
theorem d_ES_init_36 : decode b_ES_init 36 = .ok (.aload_n 0, 1) := by decide +kernel
theorem d_ES_init_37 : decode b_ES_init 37 = .ok (.bipush 10, 2) := by decide +kernel
theorem d_ES_init_39 : decode b_ES_init 39 = .ok (.anewarray 33, 3) := by decide +kernel
theorem d_ES_init_42 : decode b_ES_init 42 = .ok (.putfield 35, 3) := by decide +kernel
theorem d_ES_init_45 : decode b_ES_init 45 = .ok (.aload_n 0, 1) := by decide +kernel
theorem d_ES_init_46 : decode b_ES_init 46 = .ok (.new 39, 3) := by decide +kernel
theorem d_ES_init_49 : decode b_ES_init 49 = .ok (.dup, 1) := by decide +kernel
theorem d_ES_init_50 : decode b_ES_init 50 = .ok (.invokespecial 41, 3) := by decide +kernel
theorem d_ES_init_53 : decode b_ES_init 53 = .ok (.putfield 42, 3) := by decide +kernel
theorem d_ES_init_56 : decode b_ES_init 56 = .ok (.iconst 0, 1) := by decide +kernel
theorem d_ES_init_57 : decode b_ES_init 57 = .ok (.istore_n 1, 1) := by decide +kernel
theorem d_ES_init_58 : decode b_ES_init 58 = .ok (.iload_n 1, 1) := by decide +kernel
theorem d_ES_init_59 : decode b_ES_init 59 = .ok (.iconst 3, 1) := by decide +kernel
theorem d_ES_init_60 : decode b_ES_init 60 = .ok (.if_icmp .ge 22, 3) := by decide +kernel
theorem d_ES_init_63 : decode b_ES_init 63 = .ok (.aload_n 0, 1) := by decide +kernel
theorem d_ES_init_64 : decode b_ES_init 64 = .ok (.getfield 11, 3) := by decide +kernel
theorem d_ES_init_67 : decode b_ES_init 67 = .ok (.iload_n 1, 1) := by decide +kernel
theorem d_ES_init_68 : decode b_ES_init 68 = .ok (.new 9, 3) := by decide +kernel
theorem d_ES_init_71 : decode b_ES_init 71 = .ok (.dup, 1) := by decide +kernel
theorem d_ES_init_72 : decode b_ES_init 72 = .ok (.invokespecial 46, 3) := by decide +kernel
theorem d_ES_init_75 : decode b_ES_init 75 = .ok (.aastore, 1) := by decide +kernel
theorem d_ES_init_76 : decode b_ES_init 76 = .ok (.iinc 1 1, 3) := by decide +kernel
theorem d_ES_init_79 : decode b_ES_init 79 = .ok (.goto (-21), 3) := by decide +kernel
theorem d_ES_init_82 : decode b_ES_init 82 = .ok (.iconst 0, 1) := by decide +kernel
theorem d_ES_init_83 : decode b_ES_init 83 = .ok (.istore_n 1, 1) := by decide +kernel
theorem d_ES_init_84 : decode b_ES_init 84 = .ok (.iload_n 1, 1) := by decide +kernel
theorem d_ES_init_85 : decode b_ES_init 85 = .ok (.iconst 3, 1) := by decide +kernel
theorem d_ES_init_86 : decode b_ES_init 86 = .ok (.if_icmp .ge 23, 3) := by decide +kernel
theorem d_ES_init_89 : decode b_ES_init 89 = .ok (.aload_n 0, 1) := by decide +kernel
theorem d_ES_init_90 : decode b_ES_init 90 = .ok (.getfield 17, 3) := by decide +kernel
theorem d_ES_init_93 : decode b_ES_init 93 = .ok (.iload_n 1, 1) := by decide +kernel
theorem d_ES_init_94 : decode b_ES_init 94 = .ok (.new 15, 3) := by decide +kernel
theorem d_ES_init_97 : decode b_ES_init 97 = .ok (.dup, 1) := by decide +kernel
theorem d_ES_init_98 : decode b_ES_init 98 = .ok (.iload_n 1, 1) := by decide +kernel
theorem d_ES_init_99 : decode b_ES_init 99 = .ok (.invokespecial 47, 3) := by decide +kernel
theorem d_ES_init_102 : decode b_ES_init 102 = .ok (.aastore, 1) := by decide +kernel
theorem d_ES_init_103 : decode b_ES_init 103 = .ok (.iinc 1 1, 3) := by decide +kernel
theorem d_ES_init_106 : decode b_ES_init 106 = .ok (.goto (-22), 3) := by decide +kernel
theorem d_ES_init_109 : decode b_ES_init 109 = .ok (.iconst 0, 1) := by decide +kernel
theorem d_ES_init_110 : decode b_ES_init 110 = .ok (.istore_n 1, 1) := by decide +kernel
theorem d_ES_init_111 : decode b_ES_init 111 = .ok (.iload_n 1, 1) := by decide +kernel
theorem d_ES_init_112 : decode b_ES_init 112 = .ok (.iconst 2, 1) := by decide +kernel
theorem d_ES_init_113 : decode b_ES_init 113 = .ok (.if_icmp .ge 23, 3) := by decide +kernel
theorem d_ES_init_116 : decode b_ES_init 116 = .ok (.aload_n 0, 1) := by decide +kernel
theorem d_ES_init_117 : decode b_ES_init 117 = .ok (.getfield 23, 3) := by decide +kernel
theorem d_ES_init_120 : decode b_ES_init 120 = .ok (.iload_n 1, 1) := by decide +kernel
theorem d_ES_init_121 : decode b_ES_init 121 = .ok (.new 21, 3) := by decide +kernel
theorem d_ES_init_124 : decode b_ES_init 124 = .ok (.dup, 1) := by decide +kernel
theorem d_ES_init_125 : decode b_ES_init 125 = .ok (.iload_n 1, 1) := by decide +kernel
theorem d_ES_init_126 : decode b_ES_init 126 = .ok (.invokespecial 50, 3) := by decide +kernel
theorem d_ES_init_129 : decode b_ES_init 129 = .ok (.aastore, 1) := by decide +kernel
theorem d_ES_init_130 : decode b_ES_init 130 = .ok (.iinc 1 1, 3) := by decide +kernel
theorem d_ES_init_133 : decode b_ES_init 133 = .ok (.goto (-22), 3) := by decide +kernel
theorem d_ES_init_136 : decode b_ES_init 136 = .ok (.iconst 0, 1) := by decide +kernel
theorem d_ES_init_137 : decode b_ES_init 137 = .ok (.istore_n 1, 1) := by decide +kernel
theorem d_ES_init_138 : decode b_ES_init 138 = .ok (.iload_n 1, 1) := by decide +kernel
theorem d_ES_init_139 : decode b_ES_init 139 = .ok (.iconst 3, 1) := by decide +kernel
theorem d_ES_init_140 : decode b_ES_init 140 = .ok (.if_icmp .ge 23, 3) := by decide +kernel
theorem d_ES_init_143 : decode b_ES_init 143 = .ok (.aload_n 0, 1) := by decide +kernel
theorem d_ES_init_144 : decode b_ES_init 144 = .ok (.getfield 29, 3) := by decide +kernel
theorem d_ES_init_147 : decode b_ES_init 147 = .ok (.iload_n 1, 1) := by decide +kernel
theorem d_ES_init_148 : decode b_ES_init 148 = .ok (.new 27, 3) := by decide +kernel
theorem d_ES_init_151 : decode b_ES_init 151 = .ok (.dup, 1) := by decide +kernel
theorem d_ES_init_152 : decode b_ES_init 152 = .ok (.iload_n 1, 1) := by decide +kernel
theorem d_ES_init_153 : decode b_ES_init 153 = .ok (.invokespecial 51, 3) := by decide +kernel
theorem d_ES_init_156 : decode b_ES_init 156 = .ok (.aastore, 1) := by decide +kernel
theorem d_ES_init_157 : decode b_ES_init 157 = .ok (.iinc 1 1, 3) := by decide +kernel
theorem d_ES_init_160 : decode b_ES_init 160 = .ok (.goto (-22), 3) := by decide +kernel
theorem d_ES_init_163 : decode b_ES_init 163 = .ok (.aload_n 0, 1) := by decide +kernel
theorem d_ES_init_164 : decode b_ES_init 164 = .ok (.getfield 35, 3) := by decide +kernel
theorem d_ES_init_167 : decode b_ES_init 167 = .ok (.iconst 1, 1) := by decide +kernel
theorem d_ES_init_168 : decode b_ES_init 168 = .ok (.new 33, 3) := by decide +kernel
theorem d_ES_init_171 : decode b_ES_init 171 = .ok (.dup, 1) := by decide +kernel
theorem d_ES_init_172 : decode b_ES_init 172 = .ok (.iconst 1, 1) := by decide +kernel
theorem d_ES_init_173 : decode b_ES_init 173 = .ok (.bipush 7, 2) := by decide +kernel
theorem d_ES_init_175 : decode b_ES_init 175 = .ok (.bipush 10, 2) := by decide +kernel
theorem d_ES_init_177 : decode b_ES_init 177 = .ok (.invokespecial 52, 3) := by decide +kernel
theorem d_ES_init_180 : decode b_ES_init 180 = .ok (.aastore, 1) := by decide +kernel
theorem d_ES_init_181 : decode b_ES_init 181 = .ok (.return_, 1) := by decide +kernel
theorem d_ES_epochOfMajority_0 : decode b_ES_epochOfMajority 0 = .ok (.iconst 0, 1) := by decide +kernel
theorem d_ES_epochOfMajority_1 : decode b_ES_epochOfMajority 1 = .ok (.istore_n 1, 1) := by decide +kernel
theorem d_ES_epochOfMajority_2 : decode b_ES_epochOfMajority 2 = .ok (.iconst (-1), 1) := by decide +kernel
theorem d_ES_epochOfMajority_3 : decode b_ES_epochOfMajority 3 = .ok (.istore_n 2, 1) := by decide +kernel
theorem d_ES_epochOfMajority_4 : decode b_ES_epochOfMajority 4 = .ok (.iconst 0, 1) := by decide +kernel
theorem d_ES_epochOfMajority_5 : decode b_ES_epochOfMajority 5 = .ok (.istore_n 3, 1) := by decide +kernel
theorem d_ES_epochOfMajority_6 : decode b_ES_epochOfMajority 6 = .ok (.iload_n 3, 1) := by decide +kernel
theorem d_ES_epochOfMajority_7 : decode b_ES_epochOfMajority 7 = .ok (.iconst 3, 1) := by decide +kernel
theorem d_ES_epochOfMajority_8 : decode b_ES_epochOfMajority 8 = .ok (.if_icmp .ge 38, 3) := by decide +kernel
theorem d_ES_epochOfMajority_11 : decode b_ES_epochOfMajority 11 = .ok (.aload_n 0, 1) := by decide +kernel
theorem d_ES_epochOfMajority_12 : decode b_ES_epochOfMajority 12 = .ok (.getfield 11, 3) := by decide +kernel
theorem d_ES_epochOfMajority_15 : decode b_ES_epochOfMajority 15 = .ok (.iload_n 3, 1) := by decide +kernel
theorem d_ES_epochOfMajority_16 : decode b_ES_epochOfMajority 16 = .ok (.aaload, 1) := by decide +kernel
theorem d_ES_epochOfMajority_17 : decode b_ES_epochOfMajority 17 = .ok (.getfield 205, 3) := by decide +kernel
theorem d_ES_epochOfMajority_20 : decode b_ES_epochOfMajority 20 = .ok (.ifCond .eq 20, 3) := by decide +kernel
theorem d_ES_epochOfMajority_23 : decode b_ES_epochOfMajority 23 = .ok (.iinc 1 1, 3) := by decide +kernel
theorem d_ES_epochOfMajority_26 : decode b_ES_epochOfMajority 26 = .ok (.iload_n 2, 1) := by decide +kernel
theorem d_ES_epochOfMajority_27 : decode b_ES_epochOfMajority 27 = .ok (.aload_n 0, 1) := by decide +kernel
theorem d_ES_epochOfMajority_28 : decode b_ES_epochOfMajority 28 = .ok (.getfield 11, 3) := by decide +kernel
theorem d_ES_epochOfMajority_31 : decode b_ES_epochOfMajority 31 = .ok (.iload_n 3, 1) := by decide +kernel
theorem d_ES_epochOfMajority_32 : decode b_ES_epochOfMajority 32 = .ok (.aaload, 1) := by decide +kernel
theorem d_ES_epochOfMajority_33 : decode b_ES_epochOfMajority 33 = .ok (.getfield 220, 3) := by decide +kernel
theorem d_ES_epochOfMajority_36 : decode b_ES_epochOfMajority 36 = .ok (.invokestatic 221, 3) := by decide +kernel
theorem d_ES_epochOfMajority_39 : decode b_ES_epochOfMajority 39 = .ok (.istore_n 2, 1) := by decide +kernel
theorem d_ES_epochOfMajority_40 : decode b_ES_epochOfMajority 40 = .ok (.iinc 3 1, 3) := by decide +kernel
theorem d_ES_epochOfMajority_43 : decode b_ES_epochOfMajority 43 = .ok (.goto (-37), 3) := by decide +kernel
theorem d_ES_epochOfMajority_46 : decode b_ES_epochOfMajority 46 = .ok (.iload_n 1, 1) := by decide +kernel
theorem d_ES_epochOfMajority_47 : decode b_ES_epochOfMajority 47 = .ok (.iconst 2, 1) := by decide +kernel
theorem d_ES_epochOfMajority_48 : decode b_ES_epochOfMajority 48 = .ok (.if_icmp .lt 7, 3) := by decide +kernel
theorem d_ES_epochOfMajority_51 : decode b_ES_epochOfMajority 51 = .ok (.iload_n 2, 1) := by decide +kernel
theorem d_ES_epochOfMajority_52 : decode b_ES_epochOfMajority 52 = .ok (.goto 4, 3) := by decide +kernel
theorem d_ES_epochOfMajority_55 : decode b_ES_epochOfMajority 55 = .ok (.iconst (-1), 1) := by decide +kernel
theorem d_ES_epochOfMajority_56 : decode b_ES_epochOfMajority 56 = .ok (.ireturn, 1) := by decide +kernel
theorem d_ES_isClient_0 : decode b_ES_isClient 0 = .ok (.iload_n 0, 1) := by decide +kernel
theorem d_ES_isClient_1 : decode b_ES_isClient 1 = .ok (.ifCond .lt 12, 3) := by decide +kernel
theorem d_ES_isClient_4 : decode b_ES_isClient 4 = .ok (.iload_n 0, 1) := by decide +kernel
theorem d_ES_isClient_5 : decode b_ES_isClient 5 = .ok (.iconst 3, 1) := by decide +kernel
theorem d_ES_isClient_6 : decode b_ES_isClient 6 = .ok (.if_icmp .ge 7, 3) := by decide +kernel
theorem d_ES_isClient_9 : decode b_ES_isClient 9 = .ok (.iconst 1, 1) := by decide +kernel
theorem d_ES_isClient_10 : decode b_ES_isClient 10 = .ok (.goto 4, 3) := by decide +kernel
theorem d_ES_isClient_13 : decode b_ES_isClient 13 = .ok (.iconst 0, 1) := by decide +kernel
theorem d_ES_isClient_14 : decode b_ES_isClient 14 = .ok (.ireturn, 1) := by decide +kernel
theorem d_ES_find_0 : decode b_ES_find 0 = .ok (.aload_n 0, 1) := by decide +kernel
theorem d_ES_find_1 : decode b_ES_find 1 = .ok (.invokevirtual 55, 3) := by decide +kernel
theorem d_ES_find_4 : decode b_ES_find 4 = .ok (.istore_n 2, 1) := by decide +kernel
theorem d_ES_find_5 : decode b_ES_find 5 = .ok (.iload_n 1, 1) := by decide +kernel
theorem d_ES_find_6 : decode b_ES_find 6 = .ok (.invokestatic 59, 3) := by decide +kernel
theorem d_ES_find_9 : decode b_ES_find 9 = .ok (.ifCond .eq 8, 3) := by decide +kernel
theorem d_ES_find_12 : decode b_ES_find 12 = .ok (.iload_n 2, 1) := by decide +kernel
theorem d_ES_find_13 : decode b_ES_find 13 = .ok (.iconst (-1), 1) := by decide +kernel
theorem d_ES_find_14 : decode b_ES_find 14 = .ok (.if_icmp .ne 5, 3) := by decide +kernel
theorem d_ES_find_17 : decode b_ES_find 17 = .ok (.iconst (-1), 1) := by decide +kernel
theorem d_ES_find_18 : decode b_ES_find 18 = .ok (.ireturn, 1) := by decide +kernel
theorem d_ES_find_19 : decode b_ES_find 19 = .ok (.aload_n 0, 1) := by decide +kernel
theorem d_ES_find_20 : decode b_ES_find 20 = .ok (.getfield 29, 3) := by decide +kernel
theorem d_ES_find_23 : decode b_ES_find 23 = .ok (.iload_n 1, 1) := by decide +kernel
theorem d_ES_find_24 : decode b_ES_find 24 = .ok (.aaload, 1) := by decide +kernel
theorem d_ES_find_25 : decode b_ES_find 25 = .ok (.iload_n 2, 1) := by decide +kernel
theorem d_ES_find_26 : decode b_ES_find 26 = .ok (.putfield 63, 3) := by decide +kernel
theorem d_ES_find_29 : decode b_ES_find 29 = .ok (.iload_n 2, 1) := by decide +kernel
theorem d_ES_find_30 : decode b_ES_find 30 = .ok (.ireturn, 1) := by decide +kernel
theorem d_Client_isBusy_0 : decode b_Client_isBusy 0 = .ok (.aload_n 0, 1) := by decide +kernel
theorem d_Client_isBusy_1 : decode b_Client_isBusy 1 = .ok (.getfield 15, 3) := by decide +kernel
theorem d_Client_isBusy_4 : decode b_Client_isBusy 4 = .ok (.iconst 1, 1) := by decide +kernel
theorem d_Client_isBusy_5 : decode b_Client_isBusy 5 = .ok (.if_icmp .eq 19, 3) := by decide +kernel
theorem d_Client_isBusy_8 : decode b_Client_isBusy 8 = .ok (.aload_n 0, 1) := by decide +kernel
theorem d_Client_isBusy_9 : decode b_Client_isBusy 9 = .ok (.getfield 15, 3) := by decide +kernel
theorem d_Client_isBusy_12 : decode b_Client_isBusy 12 = .ok (.iconst 2, 1) := by decide +kernel
theorem d_Client_isBusy_13 : decode b_Client_isBusy 13 = .ok (.if_icmp .eq 11, 3) := by decide +kernel
theorem d_Client_isBusy_16 : decode b_Client_isBusy 16 = .ok (.aload_n 0, 1) := by decide +kernel
theorem d_Client_isBusy_17 : decode b_Client_isBusy 17 = .ok (.getfield 15, 3) := by decide +kernel
theorem d_Client_isBusy_20 : decode b_Client_isBusy 20 = .ok (.iconst 3, 1) := by decide +kernel
theorem d_Client_isBusy_21 : decode b_Client_isBusy 21 = .ok (.if_icmp .ne 7, 3) := by decide +kernel
theorem d_Client_isBusy_24 : decode b_Client_isBusy 24 = .ok (.iconst 1, 1) := by decide +kernel
theorem d_Client_isBusy_25 : decode b_Client_isBusy 25 = .ok (.goto 4, 3) := by decide +kernel
theorem d_Client_isBusy_28 : decode b_Client_isBusy 28 = .ok (.iconst 0, 1) := by decide +kernel
theorem d_Client_isBusy_29 : decode b_Client_isBusy 29 = .ok (.ireturn, 1) := by decide +kernel
