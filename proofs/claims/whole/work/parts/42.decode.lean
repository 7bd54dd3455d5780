theorem d_EM_acknowledged_0 : decode b_EM_acknowledged 0 = .ok (.bipush 8, 2) := by decide +kernel
theorem d_EM_acknowledged_2 : decode b_EM_acknowledged 2 = .ok (.iload_n 2, 1) := by decide +kernel
theorem d_EM_acknowledged_3 : decode b_EM_acknowledged 3 = .ok (.imul, 1) := by decide +kernel
theorem d_EM_acknowledged_4 : decode b_EM_acknowledged 4 = .ok (.istore 4, 2) := by decide +kernel
theorem d_EM_acknowledged_6 : decode b_EM_acknowledged 6 = .ok (.iload 4, 2) := by decide +kernel
theorem d_EM_acknowledged_8 : decode b_EM_acknowledged 8 = .ok (.bipush 8, 2) := by decide +kernel
theorem d_EM_acknowledged_10 : decode b_EM_acknowledged 10 = .ok (.iload_n 2, 1) := by decide +kernel
theorem d_EM_acknowledged_11 : decode b_EM_acknowledged 11 = .ok (.imul, 1) := by decide +kernel
theorem d_EM_acknowledged_12 : decode b_EM_acknowledged 12 = .ok (.aload_n 0, 1) := by decide +kernel
theorem d_EM_acknowledged_13 : decode b_EM_acknowledged 13 = .ok (.getfield 101, 3) := by decide +kernel
theorem d_EM_acknowledged_16 : decode b_EM_acknowledged 16 = .ok (.iload_n 2, 1) := by decide +kernel
theorem d_EM_acknowledged_17 : decode b_EM_acknowledged 17 = .ok (.iaload, 1) := by decide +kernel
theorem d_EM_acknowledged_18 : decode b_EM_acknowledged 18 = .ok (.iadd, 1) := by decide +kernel
theorem d_EM_acknowledged_19 : decode b_EM_acknowledged 19 = .ok (.if_icmp .ge 48, 3) := by decide +kernel
theorem d_EM_acknowledged_22 : decode b_EM_acknowledged 22 = .ok (.aload_n 0, 1) := by decide +kernel
theorem d_EM_acknowledged_23 : decode b_EM_acknowledged 23 = .ok (.getfield 116, 3) := by decide +kernel
theorem d_EM_acknowledged_26 : decode b_EM_acknowledged 26 = .ok (.iload 4, 2) := by decide +kernel
theorem d_EM_acknowledged_28 : decode b_EM_acknowledged 28 = .ok (.aload_n 0, 1) := by decide +kernel
theorem d_EM_acknowledged_29 : decode b_EM_acknowledged 29 = .ok (.getfield 104, 3) := by decide +kernel
theorem d_EM_acknowledged_32 : decode b_EM_acknowledged 32 = .ok (.iload 4, 2) := by decide +kernel
theorem d_EM_acknowledged_34 : decode b_EM_acknowledged 34 = .ok (.iaload, 1) := by decide +kernel
theorem d_EM_acknowledged_35 : decode b_EM_acknowledged 35 = .ok (.iload_n 3, 1) := by decide +kernel
theorem d_EM_acknowledged_36 : decode b_EM_acknowledged 36 = .ok (.if_icmp .ne 17, 3) := by decide +kernel
theorem d_EM_acknowledged_39 : decode b_EM_acknowledged 39 = .ok (.aload_n 0, 1) := by decide +kernel
theorem d_EM_acknowledged_40 : decode b_EM_acknowledged 40 = .ok (.getfield 116, 3) := by decide +kernel
theorem d_EM_acknowledged_43 : decode b_EM_acknowledged 43 = .ok (.iload 4, 2) := by decide +kernel
theorem d_EM_acknowledged_45 : decode b_EM_acknowledged 45 = .ok (.iaload, 1) := by decide +kernel
theorem d_EM_acknowledged_46 : decode b_EM_acknowledged 46 = .ok (.iconst 1, 1) := by decide +kernel
theorem d_EM_acknowledged_47 : decode b_EM_acknowledged 47 = .ok (.iload_n 1, 1) := by decide +kernel
theorem d_EM_acknowledged_48 : decode b_EM_acknowledged 48 = .ok (.ishl, 1) := by decide +kernel
theorem d_EM_acknowledged_49 : decode b_EM_acknowledged 49 = .ok (.ior, 1) := by decide +kernel
theorem d_EM_acknowledged_50 : decode b_EM_acknowledged 50 = .ok (.goto 10, 3) := by decide +kernel
theorem d_EM_acknowledged_53 : decode b_EM_acknowledged 53 = .ok (.aload_n 0, 1) := by decide +kernel
theorem d_EM_acknowledged_54 : decode b_EM_acknowledged 54 = .ok (.getfield 116, 3) := by decide +kernel
theorem d_EM_acknowledged_57 : decode b_EM_acknowledged 57 = .ok (.iload 4, 2) := by decide +kernel
theorem d_EM_acknowledged_59 : decode b_EM_acknowledged 59 = .ok (.iaload, 1) := by decide +kernel
theorem d_EM_acknowledged_60 : decode b_EM_acknowledged 60 = .ok (.iastore, 1) := by decide +kernel
theorem d_EM_acknowledged_61 : decode b_EM_acknowledged 61 = .ok (.iinc 4 1, 3) := by decide +kernel
theorem d_EM_acknowledged_64 : decode b_EM_acknowledged 64 = .ok (.goto (-58), 3) := by decide +kernel
theorem d_EM_acknowledged_67 : decode b_EM_acknowledged 67 = .ok (.aload_n 0, 1) := by decide +kernel
theorem d_EM_acknowledged_68 : decode b_EM_acknowledged 68 = .ok (.getfield 101, 3) := by decide +kernel
theorem d_EM_acknowledged_71 : decode b_EM_acknowledged 71 = .ok (.iload_n 2, 1) := by decide +kernel
theorem d_EM_acknowledged_72 : decode b_EM_acknowledged 72 = .ok (.iaload, 1) := by decide +kernel
theorem d_EM_acknowledged_73 : decode b_EM_acknowledged 73 = .ok (.ifCond .le 128, 3) := by decide +kernel
theorem d_EM_acknowledged_76 : decode b_EM_acknowledged 76 = .ok (.aload_n 0, 1) := by decide +kernel
theorem d_EM_acknowledged_77 : decode b_EM_acknowledged 77 = .ok (.getfield 116, 3) := by decide +kernel
theorem d_EM_acknowledged_80 : decode b_EM_acknowledged 80 = .ok (.bipush 8, 2) := by decide +kernel
theorem d_EM_acknowledged_82 : decode b_EM_acknowledged 82 = .ok (.iload_n 2, 1) := by decide +kernel
theorem d_EM_acknowledged_83 : decode b_EM_acknowledged 83 = .ok (.imul, 1) := by decide +kernel
theorem d_EM_acknowledged_84 : decode b_EM_acknowledged 84 = .ok (.iaload, 1) := by decide +kernel
theorem d_EM_acknowledged_85 : decode b_EM_acknowledged 85 = .ok (.aload_n 0, 1) := by decide +kernel
theorem d_EM_acknowledged_86 : decode b_EM_acknowledged 86 = .ok (.getfield 65, 3) := by decide +kernel
theorem d_EM_acknowledged_89 : decode b_EM_acknowledged 89 = .ok (.iload_n 2, 1) := by decide +kernel
theorem d_EM_acknowledged_90 : decode b_EM_acknowledged 90 = .ok (.iaload, 1) := by decide +kernel
theorem d_EM_acknowledged_91 : decode b_EM_acknowledged 91 = .ok (.iand, 1) := by decide +kernel
theorem d_EM_acknowledged_92 : decode b_EM_acknowledged 92 = .ok (.aload_n 0, 1) := by decide +kernel
theorem d_EM_acknowledged_93 : decode b_EM_acknowledged 93 = .ok (.getfield 65, 3) := by decide +kernel
theorem d_EM_acknowledged_96 : decode b_EM_acknowledged 96 = .ok (.iload_n 2, 1) := by decide +kernel
theorem d_EM_acknowledged_97 : decode b_EM_acknowledged 97 = .ok (.iaload, 1) := by decide +kernel
theorem d_EM_acknowledged_98 : decode b_EM_acknowledged 98 = .ok (.if_icmp .ne 103, 3) := by decide +kernel
theorem d_EM_acknowledged_101 : decode b_EM_acknowledged 101 = .ok (.aload_n 0, 1) := by decide +kernel
theorem d_EM_acknowledged_102 : decode b_EM_acknowledged 102 = .ok (.getfield 119, 3) := by decide +kernel
theorem d_EM_acknowledged_105 : decode b_EM_acknowledged 105 = .ok (.bipush 8, 2) := by decide +kernel
theorem d_EM_acknowledged_107 : decode b_EM_acknowledged 107 = .ok (.iload_n 2, 1) := by decide +kernel
theorem d_EM_acknowledged_108 : decode b_EM_acknowledged 108 = .ok (.imul, 1) := by decide +kernel
theorem d_EM_acknowledged_109 : decode b_EM_acknowledged 109 = .ok (.iaload, 1) := by decide +kernel
theorem d_EM_acknowledged_110 : decode b_EM_acknowledged 110 = .ok (.istore 4, 2) := by decide +kernel
theorem d_EM_acknowledged_112 : decode b_EM_acknowledged 112 = .ok (.aload_n 0, 1) := by decide +kernel
theorem d_EM_acknowledged_113 : decode b_EM_acknowledged 113 = .ok (.getfield 122, 3) := by decide +kernel
theorem d_EM_acknowledged_116 : decode b_EM_acknowledged 116 = .ok (.bipush 8, 2) := by decide +kernel
theorem d_EM_acknowledged_118 : decode b_EM_acknowledged 118 = .ok (.iload_n 2, 1) := by decide +kernel
theorem d_EM_acknowledged_119 : decode b_EM_acknowledged 119 = .ok (.imul, 1) := by decide +kernel
theorem d_EM_acknowledged_120 : decode b_EM_acknowledged 120 = .ok (.iaload, 1) := by decide +kernel
theorem d_EM_acknowledged_121 : decode b_EM_acknowledged 121 = .ok (.istore 5, 2) := by decide +kernel
theorem d_EM_acknowledged_123 : decode b_EM_acknowledged 123 = .ok (.aload_n 0, 1) := by decide +kernel
theorem d_EM_acknowledged_124 : decode b_EM_acknowledged 124 = .ok (.getfield 77, 3) := by decide +kernel
theorem d_EM_acknowledged_127 : decode b_EM_acknowledged 127 = .ok (.iload_n 2, 1) := by decide +kernel
theorem d_EM_acknowledged_128 : decode b_EM_acknowledged 128 = .ok (.aload_n 0, 1) := by decide +kernel
theorem d_EM_acknowledged_129 : decode b_EM_acknowledged 129 = .ok (.getfield 104, 3) := by decide +kernel
theorem d_EM_acknowledged_132 : decode b_EM_acknowledged 132 = .ok (.bipush 8, 2) := by decide +kernel
theorem d_EM_acknowledged_134 : decode b_EM_acknowledged 134 = .ok (.iload_n 2, 1) := by decide +kernel
theorem d_EM_acknowledged_135 : decode b_EM_acknowledged 135 = .ok (.imul, 1) := by decide +kernel
theorem d_EM_acknowledged_136 : decode b_EM_acknowledged 136 = .ok (.iaload, 1) := by decide +kernel
theorem d_EM_acknowledged_137 : decode b_EM_acknowledged 137 = .ok (.iastore, 1) := by decide +kernel
theorem d_EM_acknowledged_138 : decode b_EM_acknowledged 138 = .ok (.aload_n 0, 1) := by decide +kernel
theorem d_EM_acknowledged_139 : decode b_EM_acknowledged 139 = .ok (.getfield 101, 3) := by decide +kernel
theorem d_EM_acknowledged_142 : decode b_EM_acknowledged 142 = .ok (.iload_n 2, 1) := by decide +kernel
theorem d_EM_acknowledged_143 : decode b_EM_acknowledged 143 = .ok (.dup2, 1) := by decide +kernel
theorem d_EM_acknowledged_144 : decode b_EM_acknowledged 144 = .ok (.iaload, 1) := by decide +kernel
theorem d_EM_acknowledged_145 : decode b_EM_acknowledged 145 = .ok (.iconst 1, 1) := by decide +kernel
theorem d_EM_acknowledged_146 : decode b_EM_acknowledged 146 = .ok (.isub, 1) := by decide +kernel
theorem d_EM_acknowledged_147 : decode b_EM_acknowledged 147 = .ok (.iastore, 1) := by decide +kernel
theorem d_EM_acknowledged_148 : decode b_EM_acknowledged 148 = .ok (.bipush 8, 2) := by decide +kernel
theorem d_EM_acknowledged_150 : decode b_EM_acknowledged 150 = .ok (.iload_n 2, 1) := by decide +kernel
theorem d_EM_acknowledged_151 : decode b_EM_acknowledged 151 = .ok (.imul, 1) := by decide +kernel
theorem d_EM_acknowledged_152 : decode b_EM_acknowledged 152 = .ok (.istore 6, 2) := by decide +kernel
theorem d_EM_acknowledged_154 : decode b_EM_acknowledged 154 = .ok (.iload 6, 2) := by decide +kernel
theorem d_EM_acknowledged_156 : decode b_EM_acknowledged 156 = .ok (.bipush 8, 2) := by decide +kernel
theorem d_EM_acknowledged_158 : decode b_EM_acknowledged 158 = .ok (.iload_n 2, 1) := by decide +kernel
theorem d_EM_acknowledged_159 : decode b_EM_acknowledged 159 = .ok (.imul, 1) := by decide +kernel
theorem d_EM_acknowledged_160 : decode b_EM_acknowledged 160 = .ok (.aload_n 0, 1) := by decide +kernel
theorem d_EM_acknowledged_161 : decode b_EM_acknowledged 161 = .ok (.getfield 101, 3) := by decide +kernel
theorem d_EM_acknowledged_164 : decode b_EM_acknowledged 164 = .ok (.iload_n 2, 1) := by decide +kernel
theorem d_EM_acknowledged_165 : decode b_EM_acknowledged 165 = .ok (.iaload, 1) := by decide +kernel
theorem d_EM_acknowledged_166 : decode b_EM_acknowledged 166 = .ok (.iadd, 1) := by decide +kernel
theorem d_EM_acknowledged_167 : decode b_EM_acknowledged 167 = .ok (.if_icmp .ge 15, 3) := by decide +kernel
theorem d_EM_acknowledged_170 : decode b_EM_acknowledged 170 = .ok (.aload_n 0, 1) := by decide +kernel
theorem d_EM_acknowledged_171 : decode b_EM_acknowledged 171 = .ok (.iload 6, 2) := by decide +kernel
theorem d_EM_acknowledged_173 : decode b_EM_acknowledged 173 = .ok (.invokevirtual 228, 3) := by decide +kernel
theorem d_EM_acknowledged_176 : decode b_EM_acknowledged 176 = .ok (.iinc 6 1, 3) := by decide +kernel
theorem d_EM_acknowledged_179 : decode b_EM_acknowledged 179 = .ok (.goto (-25), 3) := by decide +kernel
theorem d_EM_acknowledged_182 : decode b_EM_acknowledged 182 = .ok (.aload_n 0, 1) := by decide +kernel
theorem d_EM_acknowledged_183 : decode b_EM_acknowledged 183 = .ok (.iload 4, 2) := by decide +kernel
theorem d_EM_acknowledged_185 : decode b_EM_acknowledged 185 = .ok (.iload_n 2, 1) := by decide +kernel
theorem d_EM_acknowledged_186 : decode b_EM_acknowledged 186 = .ok (.aload_n 0, 1) := by decide +kernel
theorem d_EM_acknowledged_187 : decode b_EM_acknowledged 187 = .ok (.getfield 77, 3) := by decide +kernel
theorem d_EM_acknowledged_190 : decode b_EM_acknowledged 190 = .ok (.iload_n 2, 1) := by decide +kernel
theorem d_EM_acknowledged_191 : decode b_EM_acknowledged 191 = .ok (.iaload, 1) := by decide +kernel
theorem d_EM_acknowledged_192 : decode b_EM_acknowledged 192 = .ok (.iload 5, 2) := by decide +kernel
theorem d_EM_acknowledged_194 : decode b_EM_acknowledged 194 = .ok (.iconst 4, 1) := by decide +kernel
theorem d_EM_acknowledged_195 : decode b_EM_acknowledged 195 = .ok (.invokevirtual 217, 3) := by decide +kernel
theorem d_EM_acknowledged_198 : decode b_EM_acknowledged 198 = .ok (.goto (-131), 3) := by decide +kernel
theorem d_EM_acknowledged_201 : decode b_EM_acknowledged 201 = .ok (.return_, 1) := by decide +kernel
theorem d_EM_toMaster_0 : decode b_EM_toMaster 0 = .ok (.iload_n 1, 1) := by decide +kernel
theorem d_EM_toMaster_1 : decode b_EM_toMaster 1 = .ok (.iconst 1, 1) := by decide +kernel
theorem d_EM_toMaster_2 : decode b_EM_toMaster 2 = .ok (.if_icmp .ne 14, 3) := by decide +kernel
theorem d_EM_toMaster_5 : decode b_EM_toMaster 5 = .ok (.aload_n 0, 1) := by decide +kernel
theorem d_EM_toMaster_6 : decode b_EM_toMaster 6 = .ok (.iload_n 2, 1) := by decide +kernel
theorem d_EM_toMaster_7 : decode b_EM_toMaster 7 = .ok (.iload_n 3, 1) := by decide +kernel
theorem d_EM_toMaster_8 : decode b_EM_toMaster 8 = .ok (.iload 5, 2) := by decide +kernel
theorem d_EM_toMaster_10 : decode b_EM_toMaster 10 = .ok (.invokevirtual 204, 3) := by decide +kernel
theorem d_EM_toMaster_13 : decode b_EM_toMaster 13 = .ok (.goto 45, 3) := by decide +kernel
theorem d_EM_toMaster_16 : decode b_EM_toMaster 16 = .ok (.iload_n 1, 1) := by decide +kernel
theorem d_EM_toMaster_17 : decode b_EM_toMaster 17 = .ok (.iconst 3, 1) := by decide +kernel
theorem d_EM_toMaster_18 : decode b_EM_toMaster 18 = .ok (.if_icmp .ne 14, 3) := by decide +kernel
theorem d_EM_toMaster_21 : decode b_EM_toMaster 21 = .ok (.aload_n 0, 1) := by decide +kernel
theorem d_EM_toMaster_22 : decode b_EM_toMaster 22 = .ok (.iload_n 2, 1) := by decide +kernel
theorem d_EM_toMaster_23 : decode b_EM_toMaster 23 = .ok (.iload_n 3, 1) := by decide +kernel
theorem d_EM_toMaster_24 : decode b_EM_toMaster 24 = .ok (.iload 5, 2) := by decide +kernel
theorem d_EM_toMaster_26 : decode b_EM_toMaster 26 = .ok (.invokevirtual 207, 3) := by decide +kernel
theorem d_EM_toMaster_29 : decode b_EM_toMaster 29 = .ok (.goto 29, 3) := by decide +kernel
theorem d_EM_toMaster_32 : decode b_EM_toMaster 32 = .ok (.iload_n 1, 1) := by decide +kernel
theorem d_EM_toMaster_33 : decode b_EM_toMaster 33 = .ok (.iconst 5, 1) := by decide +kernel
theorem d_EM_toMaster_34 : decode b_EM_toMaster 34 = .ok (.if_icmp .ne 16, 3) := by decide +kernel
theorem d_EM_toMaster_37 : decode b_EM_toMaster 37 = .ok (.aload_n 0, 1) := by decide +kernel
theorem d_EM_toMaster_38 : decode b_EM_toMaster 38 = .ok (.iload_n 2, 1) := by decide +kernel
theorem d_EM_toMaster_39 : decode b_EM_toMaster 39 = .ok (.iload_n 3, 1) := by decide +kernel
theorem d_EM_toMaster_40 : decode b_EM_toMaster 40 = .ok (.iload 4, 2) := by decide +kernel
theorem d_EM_toMaster_42 : decode b_EM_toMaster 42 = .ok (.iload 5, 2) := by decide +kernel
theorem d_EM_toMaster_44 : decode b_EM_toMaster 44 = .ok (.invokevirtual 210, 3) := by decide +kernel
theorem d_EM_toMaster_47 : decode b_EM_toMaster 47 = .ok (.goto 11, 3) := by decide +kernel
theorem d_EM_toMaster_50 : decode b_EM_toMaster 50 = .ok (.aload_n 0, 1) := by decide +kernel
theorem d_EM_toMaster_51 : decode b_EM_toMaster 51 = .ok (.iload_n 2, 1) := by decide +kernel
theorem d_EM_toMaster_52 : decode b_EM_toMaster 52 = .ok (.iload_n 3, 1) := by decide +kernel
theorem d_EM_toMaster_53 : decode b_EM_toMaster 53 = .ok (.iload 4, 2) := by decide +kernel
theorem d_EM_toMaster_55 : decode b_EM_toMaster 55 = .ok (.invokevirtual 214, 3) := by decide +kernel
theorem d_EM_toMaster_58 : decode b_EM_toMaster 58 = .ok (.return_, 1) := by decide +kernel
theorem d_EM_hand_0 : decode b_EM_hand 0 = .ok (.aload_n 0, 1) := by decide +kernel
theorem d_EM_hand_1 : decode b_EM_hand 1 = .ok (.getfield 164, 3) := by decide +kernel
theorem d_EM_hand_4 : decode b_EM_hand 4 = .ok (.bipush 24, 2) := by decide +kernel
theorem d_EM_hand_6 : decode b_EM_hand 6 = .ok (.iaload, 1) := by decide +kernel
theorem d_EM_hand_7 : decode b_EM_hand 7 = .ok (.istore 4, 2) := by decide +kernel
theorem d_EM_hand_9 : decode b_EM_hand 9 = .ok (.aload_n 0, 1) := by decide +kernel
theorem d_EM_hand_10 : decode b_EM_hand 10 = .ok (.getfield 161, 3) := by decide +kernel
theorem d_EM_hand_13 : decode b_EM_hand 13 = .ok (.bipush 24, 2) := by decide +kernel
theorem d_EM_hand_15 : decode b_EM_hand 15 = .ok (.iaload, 1) := by decide +kernel
theorem d_EM_hand_16 : decode b_EM_hand 16 = .ok (.istore 5, 2) := by decide +kernel
theorem d_EM_hand_18 : decode b_EM_hand 18 = .ok (.iload_n 1, 1) := by decide +kernel
theorem d_EM_hand_19 : decode b_EM_hand 19 = .ok (.iconst 2, 1) := by decide +kernel
theorem d_EM_hand_20 : decode b_EM_hand 20 = .ok (.if_icmp .ne 36, 3) := by decide +kernel
theorem d_EM_hand_23 : decode b_EM_hand 23 = .ok (.aload_n 0, 1) := by decide +kernel
theorem d_EM_hand_24 : decode b_EM_hand 24 = .ok (.getfield 20, 3) := by decide +kernel
theorem d_EM_hand_27 : decode b_EM_hand 27 = .ok (.iload_n 2, 1) := by decide +kernel
theorem d_EM_hand_28 : decode b_EM_hand 28 = .ok (.baload, 1) := by decide +kernel
theorem d_EM_hand_29 : decode b_EM_hand 29 = .ok (.ifCond .eq 193, 3) := by decide +kernel
theorem d_EM_hand_32 : decode b_EM_hand 32 = .ok (.aload_n 0, 1) := by decide +kernel
theorem d_EM_hand_33 : decode b_EM_hand 33 = .ok (.getfield 17, 3) := by decide +kernel
theorem d_EM_hand_36 : decode b_EM_hand 36 = .ok (.iload_n 2, 1) := by decide +kernel
theorem d_EM_hand_37 : decode b_EM_hand 37 = .ok (.iaload, 1) := by decide +kernel
theorem d_EM_hand_38 : decode b_EM_hand 38 = .ok (.iload_n 3, 1) := by decide +kernel
theorem d_EM_hand_39 : decode b_EM_hand 39 = .ok (.if_icmp .ne 183, 3) := by decide +kernel
theorem d_EM_hand_42 : decode b_EM_hand 42 = .ok (.aload_n 0, 1) := by decide +kernel
theorem d_EM_hand_43 : decode b_EM_hand 43 = .ok (.iconst 3, 1) := by decide +kernel
theorem d_EM_hand_44 : decode b_EM_hand 44 = .ok (.iload_n 2, 1) := by decide +kernel
theorem d_EM_hand_45 : decode b_EM_hand 45 = .ok (.iload_n 3, 1) := by decide +kernel
theorem d_EM_hand_46 : decode b_EM_hand 46 = .ok (.iconst 0, 1) := by decide +kernel
theorem d_EM_hand_47 : decode b_EM_hand 47 = .ok (.iload 4, 2) := by decide +kernel
theorem d_EM_hand_49 : decode b_EM_hand 49 = .ok (.invokevirtual 193, 3) := by decide +kernel
theorem d_EM_hand_52 : decode b_EM_hand 52 = .ok (.pop, 1) := by decide +kernel
theorem d_EM_hand_53 : decode b_EM_hand 53 = .ok (.goto 169, 3) := by decide +kernel
theorem d_EM_hand_56 : decode b_EM_hand 56 = .ok (.iload_n 1, 1) := by decide +kernel
theorem d_EM_hand_57 : decode b_EM_hand 57 = .ok (.bipush 6, 2) := by decide +kernel
theorem d_EM_hand_59 : decode b_EM_hand 59 = .ok (.if_icmp .ne 33, 3) := by decide +kernel
theorem d_EM_hand_62 : decode b_EM_hand 62 = .ok (.aload_n 0, 1) := by decide +kernel
theorem d_EM_hand_63 : decode b_EM_hand 63 = .ok (.getfield 20, 3) := by decide +kernel
theorem d_EM_hand_66 : decode b_EM_hand 66 = .ok (.iload_n 2, 1) := by decide +kernel
theorem d_EM_hand_67 : decode b_EM_hand 67 = .ok (.baload, 1) := by decide +kernel
theorem d_EM_hand_68 : decode b_EM_hand 68 = .ok (.ifCond .eq 154, 3) := by decide +kernel
theorem d_EM_hand_71 : decode b_EM_hand 71 = .ok (.aload_n 0, 1) := by decide +kernel
theorem d_EM_hand_72 : decode b_EM_hand 72 = .ok (.getfield 17, 3) := by decide +kernel
theorem d_EM_hand_75 : decode b_EM_hand 75 = .ok (.iload_n 2, 1) := by decide +kernel
theorem d_EM_hand_76 : decode b_EM_hand 76 = .ok (.iaload, 1) := by decide +kernel
theorem d_EM_hand_77 : decode b_EM_hand 77 = .ok (.iload_n 3, 1) := by decide +kernel
theorem d_EM_hand_78 : decode b_EM_hand 78 = .ok (.if_icmp .ne 144, 3) := by decide +kernel
theorem d_EM_hand_81 : decode b_EM_hand 81 = .ok (.aload_n 0, 1) := by decide +kernel
theorem d_EM_hand_82 : decode b_EM_hand 82 = .ok (.iload_n 2, 1) := by decide +kernel
theorem d_EM_hand_83 : decode b_EM_hand 83 = .ok (.iload_n 3, 1) := by decide +kernel
theorem d_EM_hand_84 : decode b_EM_hand 84 = .ok (.iload 5, 2) := by decide +kernel
theorem d_EM_hand_86 : decode b_EM_hand 86 = .ok (.invokevirtual 197, 3) := by decide +kernel
theorem d_EM_hand_89 : decode b_EM_hand 89 = .ok (.goto 133, 3) := by decide +kernel
theorem d_EM_hand_92 : decode b_EM_hand 92 = .ok (.iload_n 1, 1) := by decide +kernel
theorem d_EM_hand_93 : decode b_EM_hand 93 = .ok (.iconst 4, 1) := by decide +kernel
theorem d_EM_hand_94 : decode b_EM_hand 94 = .ok (.if_icmp .ne 42, 3) := by decide +kernel
theorem d_EM_hand_97 : decode b_EM_hand 97 = .ok (.aload_n 0, 1) := by decide +kernel
theorem d_EM_hand_98 : decode b_EM_hand 98 = .ok (.getfield 128, 3) := by decide +kernel
theorem d_EM_hand_101 : decode b_EM_hand 101 = .ok (.iload_n 2, 1) := by decide +kernel
theorem d_EM_hand_102 : decode b_EM_hand 102 = .ok (.iaload, 1) := by decide +kernel
theorem d_EM_hand_103 : decode b_EM_hand 103 = .ok (.iload 4, 2) := by decide +kernel
theorem d_EM_hand_105 : decode b_EM_hand 105 = .ok (.if_icmp .ne 117, 3) := by decide +kernel
theorem d_EM_hand_108 : decode b_EM_hand 108 = .ok (.aload_n 0, 1) := by decide +kernel
theorem d_EM_hand_109 : decode b_EM_hand 109 = .ok (.getfield 131, 3) := by decide +kernel
theorem d_EM_hand_112 : decode b_EM_hand 112 = .ok (.iload_n 2, 1) := by decide +kernel
theorem d_EM_hand_113 : decode b_EM_hand 113 = .ok (.iaload, 1) := by decide +kernel
theorem d_EM_hand_114 : decode b_EM_hand 114 = .ok (.iconst 1, 1) := by decide +kernel
theorem d_EM_hand_115 : decode b_EM_hand 115 = .ok (.if_icmp .ne 107, 3) := by decide +kernel
theorem d_EM_hand_118 : decode b_EM_hand 118 = .ok (.aload_n 0, 1) := by decide +kernel
theorem d_EM_hand_119 : decode b_EM_hand 119 = .ok (.getfield 131, 3) := by decide +kernel
theorem d_EM_hand_122 : decode b_EM_hand 122 = .ok (.iload_n 2, 1) := by decide +kernel
theorem d_EM_hand_123 : decode b_EM_hand 123 = .ok (.iconst 2, 1) := by decide +kernel
theorem d_EM_hand_124 : decode b_EM_hand 124 = .ok (.iastore, 1) := by decide +kernel
theorem d_EM_hand_125 : decode b_EM_hand 125 = .ok (.aload_n 0, 1) := by decide +kernel
theorem d_EM_hand_126 : decode b_EM_hand 126 = .ok (.getfield 134, 3) := by decide +kernel
theorem d_EM_hand_129 : decode b_EM_hand 129 = .ok (.iload_n 2, 1) := by decide +kernel
theorem d_EM_hand_130 : decode b_EM_hand 130 = .ok (.iload 5, 2) := by decide +kernel
theorem d_EM_hand_132 : decode b_EM_hand 132 = .ok (.iastore, 1) := by decide +kernel
theorem d_EM_hand_133 : decode b_EM_hand 133 = .ok (.goto 89, 3) := by decide +kernel
theorem d_EM_hand_136 : decode b_EM_hand 136 = .ok (.iload_n 1, 1) := by decide +kernel
theorem d_EM_hand_137 : decode b_EM_hand 137 = .ok (.bipush 8, 2) := by decide +kernel
theorem d_EM_hand_139 : decode b_EM_hand 139 = .ok (.if_icmp .ne 63, 3) := by decide +kernel
theorem d_EM_hand_142 : decode b_EM_hand 142 = .ok (.aload_n 0, 1) := by decide +kernel
theorem d_EM_hand_143 : decode b_EM_hand 143 = .ok (.getfield 128, 3) := by decide +kernel
theorem d_EM_hand_146 : decode b_EM_hand 146 = .ok (.iload_n 2, 1) := by decide +kernel
theorem d_EM_hand_147 : decode b_EM_hand 147 = .ok (.iaload, 1) := by decide +kernel
theorem d_EM_hand_148 : decode b_EM_hand 148 = .ok (.iload 4, 2) := by decide +kernel
theorem d_EM_hand_150 : decode b_EM_hand 150 = .ok (.if_icmp .ne 72, 3) := by decide +kernel
theorem d_EM_hand_153 : decode b_EM_hand 153 = .ok (.aload_n 0, 1) := by decide +kernel
theorem d_EM_hand_154 : decode b_EM_hand 154 = .ok (.getfield 131, 3) := by decide +kernel
theorem d_EM_hand_157 : decode b_EM_hand 157 = .ok (.iload_n 2, 1) := by decide +kernel
theorem d_EM_hand_158 : decode b_EM_hand 158 = .ok (.iaload, 1) := by decide +kernel
theorem d_EM_hand_159 : decode b_EM_hand 159 = .ok (.iconst 3, 1) := by decide +kernel
theorem d_EM_hand_160 : decode b_EM_hand 160 = .ok (.if_icmp .ne 62, 3) := by decide +kernel
theorem d_EM_hand_163 : decode b_EM_hand 163 = .ok (.aload_n 0, 1) := by decide +kernel
theorem d_EM_hand_164 : decode b_EM_hand 164 = .ok (.getfield 131, 3) := by decide +kernel
theorem d_EM_hand_167 : decode b_EM_hand 167 = .ok (.iload_n 2, 1) := by decide +kernel
theorem d_EM_hand_168 : decode b_EM_hand 168 = .ok (.aload_n 0, 1) := by decide +kernel
theorem d_EM_hand_169 : decode b_EM_hand 169 = .ok (.getfield 170, 3) := by decide +kernel
theorem d_EM_hand_172 : decode b_EM_hand 172 = .ok (.bipush 24, 2) := by decide +kernel
theorem d_EM_hand_174 : decode b_EM_hand 174 = .ok (.iaload, 1) := by decide +kernel
theorem d_EM_hand_175 : decode b_EM_hand 175 = .ok (.iastore, 1) := by decide +kernel
theorem d_EM_hand_176 : decode b_EM_hand 176 = .ok (.aload_n 0, 1) := by decide +kernel
theorem d_EM_hand_177 : decode b_EM_hand 177 = .ok (.getfield 149, 3) := by decide +kernel
theorem d_EM_hand_180 : decode b_EM_hand 180 = .ok (.iload_n 2, 1) := by decide +kernel
theorem d_EM_hand_181 : decode b_EM_hand 181 = .ok (.aload_n 0, 1) := by decide +kernel
theorem d_EM_hand_182 : decode b_EM_hand 182 = .ok (.getfield 170, 3) := by decide +kernel
theorem d_EM_hand_185 : decode b_EM_hand 185 = .ok (.bipush 24, 2) := by decide +kernel
theorem d_EM_hand_187 : decode b_EM_hand 187 = .ok (.iaload, 1) := by decide +kernel
theorem d_EM_hand_188 : decode b_EM_hand 188 = .ok (.iconst 4, 1) := by decide +kernel
theorem d_EM_hand_189 : decode b_EM_hand 189 = .ok (.if_icmp .ne 8, 3) := by decide +kernel
theorem d_EM_hand_192 : decode b_EM_hand 192 = .ok (.iload 5, 2) := by decide +kernel
theorem d_EM_hand_194 : decode b_EM_hand 194 = .ok (.goto 4, 3) := by decide +kernel
theorem d_EM_hand_197 : decode b_EM_hand 197 = .ok (.iconst 0, 1) := by decide +kernel
theorem d_EM_hand_198 : decode b_EM_hand 198 = .ok (.iastore, 1) := by decide +kernel
theorem d_EM_hand_199 : decode b_EM_hand 199 = .ok (.goto 23, 3) := by decide +kernel
theorem d_EM_hand_202 : decode b_EM_hand 202 = .ok (.aload_n 0, 1) := by decide +kernel
theorem d_EM_hand_203 : decode b_EM_hand 203 = .ok (.getfield 62, 3) := by decide +kernel
theorem d_EM_hand_206 : decode b_EM_hand 206 = .ok (.iload_n 3, 1) := by decide +kernel
theorem d_EM_hand_207 : decode b_EM_hand 207 = .ok (.baload, 1) := by decide +kernel
theorem d_EM_hand_208 : decode b_EM_hand 208 = .ok (.ifCond .eq 14, 3) := by decide +kernel
theorem d_EM_hand_211 : decode b_EM_hand 211 = .ok (.aload_n 0, 1) := by decide +kernel
theorem d_EM_hand_212 : decode b_EM_hand 212 = .ok (.iload_n 1, 1) := by decide +kernel
theorem d_EM_hand_213 : decode b_EM_hand 213 = .ok (.iload_n 2, 1) := by decide +kernel
theorem d_EM_hand_214 : decode b_EM_hand 214 = .ok (.iload_n 3, 1) := by decide +kernel
theorem d_EM_hand_215 : decode b_EM_hand 215 = .ok (.iload 5, 2) := by decide +kernel
theorem d_EM_hand_217 : decode b_EM_hand 217 = .ok (.iload 4, 2) := by decide +kernel
theorem d_EM_hand_219 : decode b_EM_hand 219 = .ok (.invokevirtual 200, 3) := by decide +kernel
theorem d_EM_hand_222 : decode b_EM_hand 222 = .ok (.return_, 1) := by decide +kernel
theorem d_EM_deliver_0 : decode b_EM_deliver 0 = .ok (.iload_n 1, 1) := by decide +kernel
theorem d_EM_deliver_1 : decode b_EM_deliver 1 = .ok (.ifCond .lt 11, 3) := by decide +kernel
theorem d_EM_deliver_4 : decode b_EM_deliver 4 = .ok (.iload_n 1, 1) := by decide +kernel
theorem d_EM_deliver_5 : decode b_EM_deliver 5 = .ok (.aload_n 0, 1) := by decide +kernel
theorem d_EM_deliver_6 : decode b_EM_deliver 6 = .ok (.getfield 176, 3) := by decide +kernel
theorem d_EM_deliver_9 : decode b_EM_deliver 9 = .ok (.if_icmp .lt 5, 3) := by decide +kernel
theorem d_EM_deliver_12 : decode b_EM_deliver 12 = .ok (.iconst (-1), 1) := by decide +kernel
theorem d_EM_deliver_13 : decode b_EM_deliver 13 = .ok (.ireturn, 1) := by decide +kernel
theorem d_EM_deliver_14 : decode b_EM_deliver 14 = .ok (.aload_n 0, 1) := by decide +kernel
theorem d_EM_deliver_15 : decode b_EM_deliver 15 = .ok (.iload_n 1, 1) := by decide +kernel
theorem d_EM_deliver_16 : decode b_EM_deliver 16 = .ok (.invokevirtual 185, 3) := by decide +kernel
theorem d_EM_deliver_19 : decode b_EM_deliver 19 = .ok (.aload_n 0, 1) := by decide +kernel
theorem d_EM_deliver_20 : decode b_EM_deliver 20 = .ok (.getfield 152, 3) := by decide +kernel
theorem d_EM_deliver_23 : decode b_EM_deliver 23 = .ok (.bipush 24, 2) := by decide +kernel
theorem d_EM_deliver_25 : decode b_EM_deliver 25 = .ok (.iaload, 1) := by decide +kernel
theorem d_EM_deliver_26 : decode b_EM_deliver 26 = .ok (.istore_n 2, 1) := by decide +kernel
theorem d_EM_deliver_27 : decode b_EM_deliver 27 = .ok (.aload_n 0, 1) := by decide +kernel
theorem d_EM_deliver_28 : decode b_EM_deliver 28 = .ok (.iload_n 2, 1) := by decide +kernel
theorem d_EM_deliver_29 : decode b_EM_deliver 29 = .ok (.aload_n 0, 1) := by decide +kernel
theorem d_EM_deliver_30 : decode b_EM_deliver 30 = .ok (.getfield 155, 3) := by decide +kernel
theorem d_EM_deliver_33 : decode b_EM_deliver 33 = .ok (.bipush 24, 2) := by decide +kernel
theorem d_EM_deliver_35 : decode b_EM_deliver 35 = .ok (.iaload, 1) := by decide +kernel
theorem d_EM_deliver_36 : decode b_EM_deliver 36 = .ok (.aload_n 0, 1) := by decide +kernel
theorem d_EM_deliver_37 : decode b_EM_deliver 37 = .ok (.getfield 158, 3) := by decide +kernel
theorem d_EM_deliver_40 : decode b_EM_deliver 40 = .ok (.bipush 24, 2) := by decide +kernel
theorem d_EM_deliver_42 : decode b_EM_deliver 42 = .ok (.iaload, 1) := by decide +kernel
theorem d_EM_deliver_43 : decode b_EM_deliver 43 = .ok (.invokevirtual 189, 3) := by decide +kernel
theorem d_EM_deliver_46 : decode b_EM_deliver 46 = .ok (.iload_n 2, 1) := by decide +kernel
theorem d_EM_deliver_47 : decode b_EM_deliver 47 = .ok (.ireturn, 1) := by decide +kernel
theorem d_EM_isMaster_0 : decode b_EM_isMaster 0 = .ok (.iload_n 1, 1) := by decide +kernel
theorem d_EM_isMaster_1 : decode b_EM_isMaster 1 = .ok (.iconst 1, 1) := by decide +kernel
theorem d_EM_isMaster_2 : decode b_EM_isMaster 2 = .ok (.if_icmp .lt 22, 3) := by decide +kernel
theorem d_EM_isMaster_5 : decode b_EM_isMaster 5 = .ok (.iload_n 1, 1) := by decide +kernel
theorem d_EM_isMaster_6 : decode b_EM_isMaster 6 = .ok (.bipush 9, 2) := by decide +kernel
theorem d_EM_isMaster_8 : decode b_EM_isMaster 8 = .ok (.if_icmp .gt 16, 3) := by decide +kernel
theorem d_EM_isMaster_11 : decode b_EM_isMaster 11 = .ok (.aload_n 0, 1) := by decide +kernel
theorem d_EM_isMaster_12 : decode b_EM_isMaster 12 = .ok (.getfield 62, 3) := by decide +kernel
theorem d_EM_isMaster_15 : decode b_EM_isMaster 15 = .ok (.iload_n 1, 1) := by decide +kernel
theorem d_EM_isMaster_16 : decode b_EM_isMaster 16 = .ok (.baload, 1) := by decide +kernel
theorem d_EM_isMaster_17 : decode b_EM_isMaster 17 = .ok (.ifCond .eq 7, 3) := by decide +kernel
theorem d_EM_isMaster_20 : decode b_EM_isMaster 20 = .ok (.iconst 1, 1) := by decide +kernel
theorem d_EM_isMaster_21 : decode b_EM_isMaster 21 = .ok (.goto 4, 3) := by decide +kernel
theorem d_EM_isMaster_24 : decode b_EM_isMaster 24 = .ok (.iconst 0, 1) := by decide +kernel
theorem d_EM_isMaster_25 : decode b_EM_isMaster 25 = .ok (.ireturn, 1) := by decide +kernel
