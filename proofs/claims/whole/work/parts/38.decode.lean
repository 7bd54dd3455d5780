theorem d_EM_ask_0 : decode b_EM_ask 0 = .ok (.aload_n 0, 1) := by decide +kernel
theorem d_EM_ask_1 : decode b_EM_ask 1 = .ok (.getfield 86, 3) := by decide +kernel
theorem d_EM_ask_4 : decode b_EM_ask 4 = .ok (.iload_n 2, 1) := by decide +kernel
theorem d_EM_ask_5 : decode b_EM_ask 5 = .ok (.iaload, 1) := by decide +kernel
theorem d_EM_ask_6 : decode b_EM_ask 6 = .ok (.bipush 8, 2) := by decide +kernel
theorem d_EM_ask_8 : decode b_EM_ask 8 = .ok (.if_icmp .ne 4, 3) := by decide +kernel
theorem d_EM_ask_11 : decode b_EM_ask 11 = .ok (.return_, 1) := by decide +kernel
theorem d_EM_ask_12 : decode b_EM_ask 12 = .ok (.bipush 8, 2) := by decide +kernel
theorem d_EM_ask_14 : decode b_EM_ask 14 = .ok (.iload_n 2, 1) := by decide +kernel
theorem d_EM_ask_15 : decode b_EM_ask 15 = .ok (.imul, 1) := by decide +kernel
theorem d_EM_ask_16 : decode b_EM_ask 16 = .ok (.aload_n 0, 1) := by decide +kernel
theorem d_EM_ask_17 : decode b_EM_ask 17 = .ok (.getfield 86, 3) := by decide +kernel
theorem d_EM_ask_20 : decode b_EM_ask 20 = .ok (.iload_n 2, 1) := by decide +kernel
theorem d_EM_ask_21 : decode b_EM_ask 21 = .ok (.iaload, 1) := by decide +kernel
theorem d_EM_ask_22 : decode b_EM_ask 22 = .ok (.iadd, 1) := by decide +kernel
theorem d_EM_ask_23 : decode b_EM_ask 23 = .ok (.istore 4, 2) := by decide +kernel
theorem d_EM_ask_25 : decode b_EM_ask 25 = .ok (.aload_n 0, 1) := by decide +kernel
theorem d_EM_ask_26 : decode b_EM_ask 26 = .ok (.getfield 86, 3) := by decide +kernel
theorem d_EM_ask_29 : decode b_EM_ask 29 = .ok (.iload_n 2, 1) := by decide +kernel
theorem d_EM_ask_30 : decode b_EM_ask 30 = .ok (.dup2, 1) := by decide +kernel
theorem d_EM_ask_31 : decode b_EM_ask 31 = .ok (.iaload, 1) := by decide +kernel
theorem d_EM_ask_32 : decode b_EM_ask 32 = .ok (.iconst 1, 1) := by decide +kernel
theorem d_EM_ask_33 : decode b_EM_ask 33 = .ok (.iadd, 1) := by decide +kernel
theorem d_EM_ask_34 : decode b_EM_ask 34 = .ok (.iastore, 1) := by decide +kernel
theorem d_EM_ask_35 : decode b_EM_ask 35 = .ok (.aload_n 0, 1) := by decide +kernel
theorem d_EM_ask_36 : decode b_EM_ask 36 = .ok (.getfield 83, 3) := by decide +kernel
theorem d_EM_ask_39 : decode b_EM_ask 39 = .ok (.iload_n 2, 1) := by decide +kernel
theorem d_EM_ask_40 : decode b_EM_ask 40 = .ok (.dup2, 1) := by decide +kernel
theorem d_EM_ask_41 : decode b_EM_ask 41 = .ok (.iaload, 1) := by decide +kernel
theorem d_EM_ask_42 : decode b_EM_ask 42 = .ok (.iconst 1, 1) := by decide +kernel
theorem d_EM_ask_43 : decode b_EM_ask 43 = .ok (.iadd, 1) := by decide +kernel
theorem d_EM_ask_44 : decode b_EM_ask 44 = .ok (.iastore, 1) := by decide +kernel
theorem d_EM_ask_45 : decode b_EM_ask 45 = .ok (.aload_n 0, 1) := by decide +kernel
theorem d_EM_ask_46 : decode b_EM_ask 46 = .ok (.getfield 89, 3) := by decide +kernel
theorem d_EM_ask_49 : decode b_EM_ask 49 = .ok (.iload 4, 2) := by decide +kernel
theorem d_EM_ask_51 : decode b_EM_ask 51 = .ok (.aload_n 0, 1) := by decide +kernel
theorem d_EM_ask_52 : decode b_EM_ask 52 = .ok (.getfield 83, 3) := by decide +kernel
theorem d_EM_ask_55 : decode b_EM_ask 55 = .ok (.iload_n 2, 1) := by decide +kernel
theorem d_EM_ask_56 : decode b_EM_ask 56 = .ok (.iaload, 1) := by decide +kernel
theorem d_EM_ask_57 : decode b_EM_ask 57 = .ok (.iastore, 1) := by decide +kernel
theorem d_EM_ask_58 : decode b_EM_ask 58 = .ok (.aload_n 0, 1) := by decide +kernel
theorem d_EM_ask_59 : decode b_EM_ask 59 = .ok (.getfield 92, 3) := by decide +kernel
theorem d_EM_ask_62 : decode b_EM_ask 62 = .ok (.iload 4, 2) := by decide +kernel
theorem d_EM_ask_64 : decode b_EM_ask 64 = .ok (.iload_n 1, 1) := by decide +kernel
theorem d_EM_ask_65 : decode b_EM_ask 65 = .ok (.iastore, 1) := by decide +kernel
theorem d_EM_ask_66 : decode b_EM_ask 66 = .ok (.aload_n 0, 1) := by decide +kernel
theorem d_EM_ask_67 : decode b_EM_ask 67 = .ok (.getfield 95, 3) := by decide +kernel
theorem d_EM_ask_70 : decode b_EM_ask 70 = .ok (.iload 4, 2) := by decide +kernel
theorem d_EM_ask_72 : decode b_EM_ask 72 = .ok (.iload_n 3, 1) := by decide +kernel
theorem d_EM_ask_73 : decode b_EM_ask 73 = .ok (.iastore, 1) := by decide +kernel
theorem d_EM_ask_74 : decode b_EM_ask 74 = .ok (.aload_n 0, 1) := by decide +kernel
theorem d_EM_ask_75 : decode b_EM_ask 75 = .ok (.getfield 98, 3) := by decide +kernel
theorem d_EM_ask_78 : decode b_EM_ask 78 = .ok (.iload 4, 2) := by decide +kernel
theorem d_EM_ask_80 : decode b_EM_ask 80 = .ok (.iconst 0, 1) := by decide +kernel
theorem d_EM_ask_81 : decode b_EM_ask 81 = .ok (.iastore, 1) := by decide +kernel
theorem d_EM_ask_82 : decode b_EM_ask 82 = .ok (.iconst 0, 1) := by decide +kernel
theorem d_EM_ask_83 : decode b_EM_ask 83 = .ok (.istore 5, 2) := by decide +kernel
theorem d_EM_ask_85 : decode b_EM_ask 85 = .ok (.iload 5, 2) := by decide +kernel
theorem d_EM_ask_87 : decode b_EM_ask 87 = .ok (.iconst 3, 1) := by decide +kernel
theorem d_EM_ask_88 : decode b_EM_ask 88 = .ok (.if_icmp .ge 40, 3) := by decide +kernel
theorem d_EM_ask_91 : decode b_EM_ask 91 = .ok (.aload_n 0, 1) := by decide +kernel
theorem d_EM_ask_92 : decode b_EM_ask 92 = .ok (.getfield 65, 3) := by decide +kernel
theorem d_EM_ask_95 : decode b_EM_ask 95 = .ok (.iload_n 2, 1) := by decide +kernel
theorem d_EM_ask_96 : decode b_EM_ask 96 = .ok (.iaload, 1) := by decide +kernel
theorem d_EM_ask_97 : decode b_EM_ask 97 = .ok (.iload 5, 2) := by decide +kernel
theorem d_EM_ask_99 : decode b_EM_ask 99 = .ok (.ishr, 1) := by decide +kernel
theorem d_EM_ask_100 : decode b_EM_ask 100 = .ok (.iconst 1, 1) := by decide +kernel
theorem d_EM_ask_101 : decode b_EM_ask 101 = .ok (.iand, 1) := by decide +kernel
theorem d_EM_ask_102 : decode b_EM_ask 102 = .ok (.iconst 1, 1) := by decide +kernel
theorem d_EM_ask_103 : decode b_EM_ask 103 = .ok (.if_icmp .ne 19, 3) := by decide +kernel
theorem d_EM_ask_106 : decode b_EM_ask 106 = .ok (.aload_n 0, 1) := by decide +kernel
theorem d_EM_ask_107 : decode b_EM_ask 107 = .ok (.iconst 2, 1) := by decide +kernel
theorem d_EM_ask_108 : decode b_EM_ask 108 = .ok (.iload 5, 2) := by decide +kernel
theorem d_EM_ask_110 : decode b_EM_ask 110 = .ok (.iload_n 2, 1) := by decide +kernel
theorem d_EM_ask_111 : decode b_EM_ask 111 = .ok (.iconst 0, 1) := by decide +kernel
theorem d_EM_ask_112 : decode b_EM_ask 112 = .ok (.aload_n 0, 1) := by decide +kernel
theorem d_EM_ask_113 : decode b_EM_ask 113 = .ok (.getfield 83, 3) := by decide +kernel
theorem d_EM_ask_116 : decode b_EM_ask 116 = .ok (.iload_n 2, 1) := by decide +kernel
theorem d_EM_ask_117 : decode b_EM_ask 117 = .ok (.iaload, 1) := by decide +kernel
theorem d_EM_ask_118 : decode b_EM_ask 118 = .ok (.invokevirtual 193, 3) := by decide +kernel
theorem d_EM_ask_121 : decode b_EM_ask 121 = .ok (.pop, 1) := by decide +kernel
theorem d_EM_ask_122 : decode b_EM_ask 122 = .ok (.iinc 5 1, 3) := by decide +kernel
theorem d_EM_ask_125 : decode b_EM_ask 125 = .ok (.goto (-40), 3) := by decide +kernel
theorem d_EM_ask_128 : decode b_EM_ask 128 = .ok (.return_, 1) := by decide +kernel
theorem d_EM_confirmed_0 : decode b_EM_confirmed 0 = .ok (.bipush 8, 2) := by decide +kernel
theorem d_EM_confirmed_2 : decode b_EM_confirmed 2 = .ok (.iload_n 2, 1) := by decide +kernel
theorem d_EM_confirmed_3 : decode b_EM_confirmed 3 = .ok (.imul, 1) := by decide +kernel
theorem d_EM_confirmed_4 : decode b_EM_confirmed 4 = .ok (.istore 4, 2) := by decide +kernel
theorem d_EM_confirmed_6 : decode b_EM_confirmed 6 = .ok (.iload 4, 2) := by decide +kernel
theorem d_EM_confirmed_8 : decode b_EM_confirmed 8 = .ok (.bipush 8, 2) := by decide +kernel
theorem d_EM_confirmed_10 : decode b_EM_confirmed 10 = .ok (.iload_n 2, 1) := by decide +kernel
theorem d_EM_confirmed_11 : decode b_EM_confirmed 11 = .ok (.imul, 1) := by decide +kernel
theorem d_EM_confirmed_12 : decode b_EM_confirmed 12 = .ok (.aload_n 0, 1) := by decide +kernel
theorem d_EM_confirmed_13 : decode b_EM_confirmed 13 = .ok (.getfield 86, 3) := by decide +kernel
theorem d_EM_confirmed_16 : decode b_EM_confirmed 16 = .ok (.iload_n 2, 1) := by decide +kernel
theorem d_EM_confirmed_17 : decode b_EM_confirmed 17 = .ok (.iaload, 1) := by decide +kernel
theorem d_EM_confirmed_18 : decode b_EM_confirmed 18 = .ok (.iadd, 1) := by decide +kernel
theorem d_EM_confirmed_19 : decode b_EM_confirmed 19 = .ok (.if_icmp .ge 189, 3) := by decide +kernel
theorem d_EM_confirmed_22 : decode b_EM_confirmed 22 = .ok (.aload_n 0, 1) := by decide +kernel
theorem d_EM_confirmed_23 : decode b_EM_confirmed 23 = .ok (.getfield 89, 3) := by decide +kernel
theorem d_EM_confirmed_26 : decode b_EM_confirmed 26 = .ok (.iload 4, 2) := by decide +kernel
theorem d_EM_confirmed_28 : decode b_EM_confirmed 28 = .ok (.iaload, 1) := by decide +kernel
theorem d_EM_confirmed_29 : decode b_EM_confirmed 29 = .ok (.iload_n 3, 1) := by decide +kernel
theorem d_EM_confirmed_30 : decode b_EM_confirmed 30 = .ok (.if_icmp .ne 172, 3) := by decide +kernel
theorem d_EM_confirmed_33 : decode b_EM_confirmed 33 = .ok (.aload_n 0, 1) := by decide +kernel
theorem d_EM_confirmed_34 : decode b_EM_confirmed 34 = .ok (.getfield 98, 3) := by decide +kernel
theorem d_EM_confirmed_37 : decode b_EM_confirmed 37 = .ok (.iload 4, 2) := by decide +kernel
theorem d_EM_confirmed_39 : decode b_EM_confirmed 39 = .ok (.aload_n 0, 1) := by decide +kernel
theorem d_EM_confirmed_40 : decode b_EM_confirmed 40 = .ok (.getfield 98, 3) := by decide +kernel
theorem d_EM_confirmed_43 : decode b_EM_confirmed 43 = .ok (.iload 4, 2) := by decide +kernel
theorem d_EM_confirmed_45 : decode b_EM_confirmed 45 = .ok (.iaload, 1) := by decide +kernel
theorem d_EM_confirmed_46 : decode b_EM_confirmed 46 = .ok (.iconst 1, 1) := by decide +kernel
theorem d_EM_confirmed_47 : decode b_EM_confirmed 47 = .ok (.iload_n 1, 1) := by decide +kernel
theorem d_EM_confirmed_48 : decode b_EM_confirmed 48 = .ok (.ishl, 1) := by decide +kernel
theorem d_EM_confirmed_49 : decode b_EM_confirmed 49 = .ok (.ior, 1) := by decide +kernel
theorem d_EM_confirmed_50 : decode b_EM_confirmed 50 = .ok (.iastore, 1) := by decide +kernel
theorem d_EM_confirmed_51 : decode b_EM_confirmed 51 = .ok (.aload_n 0, 1) := by decide +kernel
theorem d_EM_confirmed_52 : decode b_EM_confirmed 52 = .ok (.getfield 98, 3) := by decide +kernel
theorem d_EM_confirmed_55 : decode b_EM_confirmed 55 = .ok (.iload 4, 2) := by decide +kernel
theorem d_EM_confirmed_57 : decode b_EM_confirmed 57 = .ok (.iaload, 1) := by decide +kernel
theorem d_EM_confirmed_58 : decode b_EM_confirmed 58 = .ok (.aload_n 0, 1) := by decide +kernel
theorem d_EM_confirmed_59 : decode b_EM_confirmed 59 = .ok (.getfield 65, 3) := by decide +kernel
theorem d_EM_confirmed_62 : decode b_EM_confirmed 62 = .ok (.iload_n 2, 1) := by decide +kernel
theorem d_EM_confirmed_63 : decode b_EM_confirmed 63 = .ok (.iaload, 1) := by decide +kernel
theorem d_EM_confirmed_64 : decode b_EM_confirmed 64 = .ok (.iand, 1) := by decide +kernel
theorem d_EM_confirmed_65 : decode b_EM_confirmed 65 = .ok (.aload_n 0, 1) := by decide +kernel
theorem d_EM_confirmed_66 : decode b_EM_confirmed 66 = .ok (.getfield 65, 3) := by decide +kernel
theorem d_EM_confirmed_69 : decode b_EM_confirmed 69 = .ok (.iload_n 2, 1) := by decide +kernel
theorem d_EM_confirmed_70 : decode b_EM_confirmed 70 = .ok (.iaload, 1) := by decide +kernel
theorem d_EM_confirmed_71 : decode b_EM_confirmed 71 = .ok (.if_icmp .ne 130, 3) := by decide +kernel
theorem d_EM_confirmed_74 : decode b_EM_confirmed 74 = .ok (.aload_n 0, 1) := by decide +kernel
theorem d_EM_confirmed_75 : decode b_EM_confirmed 75 = .ok (.iconst 4, 1) := by decide +kernel
theorem d_EM_confirmed_76 : decode b_EM_confirmed 76 = .ok (.aload_n 0, 1) := by decide +kernel
theorem d_EM_confirmed_77 : decode b_EM_confirmed 77 = .ok (.getfield 92, 3) := by decide +kernel
theorem d_EM_confirmed_80 : decode b_EM_confirmed 80 = .ok (.iload 4, 2) := by decide +kernel
theorem d_EM_confirmed_82 : decode b_EM_confirmed 82 = .ok (.iaload, 1) := by decide +kernel
theorem d_EM_confirmed_83 : decode b_EM_confirmed 83 = .ok (.iload_n 2, 1) := by decide +kernel
theorem d_EM_confirmed_84 : decode b_EM_confirmed 84 = .ok (.aload_n 0, 1) := by decide +kernel
theorem d_EM_confirmed_85 : decode b_EM_confirmed 85 = .ok (.getfield 77, 3) := by decide +kernel
theorem d_EM_confirmed_88 : decode b_EM_confirmed 88 = .ok (.iload_n 2, 1) := by decide +kernel
theorem d_EM_confirmed_89 : decode b_EM_confirmed 89 = .ok (.iaload, 1) := by decide +kernel
theorem d_EM_confirmed_90 : decode b_EM_confirmed 90 = .ok (.aload_n 0, 1) := by decide +kernel
theorem d_EM_confirmed_91 : decode b_EM_confirmed 91 = .ok (.getfield 95, 3) := by decide +kernel
theorem d_EM_confirmed_94 : decode b_EM_confirmed 94 = .ok (.iload 4, 2) := by decide +kernel
theorem d_EM_confirmed_96 : decode b_EM_confirmed 96 = .ok (.iaload, 1) := by decide +kernel
theorem d_EM_confirmed_97 : decode b_EM_confirmed 97 = .ok (.invokevirtual 193, 3) := by decide +kernel
theorem d_EM_confirmed_100 : decode b_EM_confirmed 100 = .ok (.pop, 1) := by decide +kernel
theorem d_EM_confirmed_101 : decode b_EM_confirmed 101 = .ok (.aload_n 0, 1) := by decide +kernel
theorem d_EM_confirmed_102 : decode b_EM_confirmed 102 = .ok (.getfield 86, 3) := by decide +kernel
theorem d_EM_confirmed_105 : decode b_EM_confirmed 105 = .ok (.iload_n 2, 1) := by decide +kernel
theorem d_EM_confirmed_106 : decode b_EM_confirmed 106 = .ok (.dup2, 1) := by decide +kernel
theorem d_EM_confirmed_107 : decode b_EM_confirmed 107 = .ok (.iaload, 1) := by decide +kernel
theorem d_EM_confirmed_108 : decode b_EM_confirmed 108 = .ok (.iconst 1, 1) := by decide +kernel
theorem d_EM_confirmed_109 : decode b_EM_confirmed 109 = .ok (.isub, 1) := by decide +kernel
theorem d_EM_confirmed_110 : decode b_EM_confirmed 110 = .ok (.iastore, 1) := by decide +kernel
theorem d_EM_confirmed_111 : decode b_EM_confirmed 111 = .ok (.iload 4, 2) := by decide +kernel
theorem d_EM_confirmed_113 : decode b_EM_confirmed 113 = .ok (.istore 5, 2) := by decide +kernel
theorem d_EM_confirmed_115 : decode b_EM_confirmed 115 = .ok (.iload 5, 2) := by decide +kernel
theorem d_EM_confirmed_117 : decode b_EM_confirmed 117 = .ok (.bipush 8, 2) := by decide +kernel
theorem d_EM_confirmed_119 : decode b_EM_confirmed 119 = .ok (.iload_n 2, 1) := by decide +kernel
theorem d_EM_confirmed_120 : decode b_EM_confirmed 120 = .ok (.imul, 1) := by decide +kernel
theorem d_EM_confirmed_121 : decode b_EM_confirmed 121 = .ok (.aload_n 0, 1) := by decide +kernel
theorem d_EM_confirmed_122 : decode b_EM_confirmed 122 = .ok (.getfield 86, 3) := by decide +kernel
theorem d_EM_confirmed_125 : decode b_EM_confirmed 125 = .ok (.iload_n 2, 1) := by decide +kernel
theorem d_EM_confirmed_126 : decode b_EM_confirmed 126 = .ok (.iaload, 1) := by decide +kernel
theorem d_EM_confirmed_127 : decode b_EM_confirmed 127 = .ok (.iadd, 1) := by decide +kernel
theorem d_EM_confirmed_128 : decode b_EM_confirmed 128 = .ok (.if_icmp .ge 73, 3) := by decide +kernel
theorem d_EM_confirmed_131 : decode b_EM_confirmed 131 = .ok (.aload_n 0, 1) := by decide +kernel
theorem d_EM_confirmed_132 : decode b_EM_confirmed 132 = .ok (.getfield 89, 3) := by decide +kernel
theorem d_EM_confirmed_135 : decode b_EM_confirmed 135 = .ok (.iload 5, 2) := by decide +kernel
theorem d_EM_confirmed_137 : decode b_EM_confirmed 137 = .ok (.aload_n 0, 1) := by decide +kernel
theorem d_EM_confirmed_138 : decode b_EM_confirmed 138 = .ok (.getfield 89, 3) := by decide +kernel
theorem d_EM_confirmed_141 : decode b_EM_confirmed 141 = .ok (.iload 5, 2) := by decide +kernel
theorem d_EM_confirmed_143 : decode b_EM_confirmed 143 = .ok (.iconst 1, 1) := by decide +kernel
theorem d_EM_confirmed_144 : decode b_EM_confirmed 144 = .ok (.iadd, 1) := by decide +kernel
theorem d_EM_confirmed_145 : decode b_EM_confirmed 145 = .ok (.iaload, 1) := by decide +kernel
theorem d_EM_confirmed_146 : decode b_EM_confirmed 146 = .ok (.iastore, 1) := by decide +kernel
theorem d_EM_confirmed_147 : decode b_EM_confirmed 147 = .ok (.aload_n 0, 1) := by decide +kernel
theorem d_EM_confirmed_148 : decode b_EM_confirmed 148 = .ok (.getfield 92, 3) := by decide +kernel
theorem d_EM_confirmed_151 : decode b_EM_confirmed 151 = .ok (.iload 5, 2) := by decide +kernel
theorem d_EM_confirmed_153 : decode b_EM_confirmed 153 = .ok (.aload_n 0, 1) := by decide +kernel
theorem d_EM_confirmed_154 : decode b_EM_confirmed 154 = .ok (.getfield 92, 3) := by decide +kernel
theorem d_EM_confirmed_157 : decode b_EM_confirmed 157 = .ok (.iload 5, 2) := by decide +kernel
theorem d_EM_confirmed_159 : decode b_EM_confirmed 159 = .ok (.iconst 1, 1) := by decide +kernel
theorem d_EM_confirmed_160 : decode b_EM_confirmed 160 = .ok (.iadd, 1) := by decide +kernel
theorem d_EM_confirmed_161 : decode b_EM_confirmed 161 = .ok (.iaload, 1) := by decide +kernel
theorem d_EM_confirmed_162 : decode b_EM_confirmed 162 = .ok (.iastore, 1) := by decide +kernel
theorem d_EM_confirmed_163 : decode b_EM_confirmed 163 = .ok (.aload_n 0, 1) := by decide +kernel
theorem d_EM_confirmed_164 : decode b_EM_confirmed 164 = .ok (.getfield 95, 3) := by decide +kernel
theorem d_EM_confirmed_167 : decode b_EM_confirmed 167 = .ok (.iload 5, 2) := by decide +kernel
theorem d_EM_confirmed_169 : decode b_EM_confirmed 169 = .ok (.aload_n 0, 1) := by decide +kernel
theorem d_EM_confirmed_170 : decode b_EM_confirmed 170 = .ok (.getfield 95, 3) := by decide +kernel
theorem d_EM_confirmed_173 : decode b_EM_confirmed 173 = .ok (.iload 5, 2) := by decide +kernel
theorem d_EM_confirmed_175 : decode b_EM_confirmed 175 = .ok (.iconst 1, 1) := by decide +kernel
theorem d_EM_confirmed_176 : decode b_EM_confirmed 176 = .ok (.iadd, 1) := by decide +kernel
theorem d_EM_confirmed_177 : decode b_EM_confirmed 177 = .ok (.iaload, 1) := by decide +kernel
theorem d_EM_confirmed_178 : decode b_EM_confirmed 178 = .ok (.iastore, 1) := by decide +kernel
theorem d_EM_confirmed_179 : decode b_EM_confirmed 179 = .ok (.aload_n 0, 1) := by decide +kernel
theorem d_EM_confirmed_180 : decode b_EM_confirmed 180 = .ok (.getfield 98, 3) := by decide +kernel
theorem d_EM_confirmed_183 : decode b_EM_confirmed 183 = .ok (.iload 5, 2) := by decide +kernel
theorem d_EM_confirmed_185 : decode b_EM_confirmed 185 = .ok (.aload_n 0, 1) := by decide +kernel
theorem d_EM_confirmed_186 : decode b_EM_confirmed 186 = .ok (.getfield 98, 3) := by decide +kernel
theorem d_EM_confirmed_189 : decode b_EM_confirmed 189 = .ok (.iload 5, 2) := by decide +kernel
theorem d_EM_confirmed_191 : decode b_EM_confirmed 191 = .ok (.iconst 1, 1) := by decide +kernel
theorem d_EM_confirmed_192 : decode b_EM_confirmed 192 = .ok (.iadd, 1) := by decide +kernel
theorem d_EM_confirmed_193 : decode b_EM_confirmed 193 = .ok (.iaload, 1) := by decide +kernel
theorem d_EM_confirmed_194 : decode b_EM_confirmed 194 = .ok (.iastore, 1) := by decide +kernel
theorem d_EM_confirmed_195 : decode b_EM_confirmed 195 = .ok (.iinc 5 1, 3) := by decide +kernel
theorem d_EM_confirmed_198 : decode b_EM_confirmed 198 = .ok (.goto (-83), 3) := by decide +kernel
theorem d_EM_confirmed_201 : decode b_EM_confirmed 201 = .ok (.return_, 1) := by decide +kernel
theorem d_EM_confirmed_202 : decode b_EM_confirmed 202 = .ok (.iinc 4 1, 3) := by decide +kernel
theorem d_EM_confirmed_205 : decode b_EM_confirmed 205 = .ok (.goto (-199), 3) := by decide +kernel
theorem d_EM_confirmed_208 : decode b_EM_confirmed 208 = .ok (.return_, 1) := by decide +kernel
theorem d_EM_result_0 : decode b_EM_result 0 = .ok (.aload_n 0, 1) := by decide +kernel
theorem d_EM_result_1 : decode b_EM_result 1 = .ok (.bipush 8, 2) := by decide +kernel
theorem d_EM_result_3 : decode b_EM_result 3 = .ok (.iload_n 1, 1) := by decide +kernel
theorem d_EM_result_4 : decode b_EM_result 4 = .ok (.iload_n 2, 1) := by decide +kernel
theorem d_EM_result_5 : decode b_EM_result 5 = .ok (.iload_n 3, 1) := by decide +kernel
theorem d_EM_result_6 : decode b_EM_result 6 = .ok (.iload 4, 2) := by decide +kernel
theorem d_EM_result_8 : decode b_EM_result 8 = .ok (.invokevirtual 193, 3) := by decide +kernel
theorem d_EM_result_11 : decode b_EM_result 11 = .ok (.istore 6, 2) := by decide +kernel
theorem d_EM_result_13 : decode b_EM_result 13 = .ok (.aload_n 0, 1) := by decide +kernel
theorem d_EM_result_14 : decode b_EM_result 14 = .ok (.getfield 170, 3) := by decide +kernel
theorem d_EM_result_17 : decode b_EM_result 17 = .ok (.iload 6, 2) := by decide +kernel
theorem d_EM_result_19 : decode b_EM_result 19 = .ok (.iload 5, 2) := by decide +kernel
theorem d_EM_result_21 : decode b_EM_result 21 = .ok (.iastore, 1) := by decide +kernel
theorem d_EM_result_22 : decode b_EM_result 22 = .ok (.return_, 1) := by decide +kernel
theorem d_EM_finds_0 : decode b_EM_finds 0 = .ok (.iconst 0, 1) := by decide +kernel
theorem d_EM_finds_1 : decode b_EM_finds 1 = .ok (.istore 4, 2) := by decide +kernel
theorem d_EM_finds_3 : decode b_EM_finds 3 = .ok (.iconst 0, 1) := by decide +kernel
theorem d_EM_finds_4 : decode b_EM_finds 4 = .ok (.istore 5, 2) := by decide +kernel
theorem d_EM_finds_6 : decode b_EM_finds 6 = .ok (.iload 5, 2) := by decide +kernel
theorem d_EM_finds_8 : decode b_EM_finds 8 = .ok (.bipush 8, 2) := by decide +kernel
theorem d_EM_finds_10 : decode b_EM_finds 10 = .ok (.if_icmp .ge 54, 3) := by decide +kernel
theorem d_EM_finds_13 : decode b_EM_finds 13 = .ok (.iload 4, 2) := by decide +kernel
theorem d_EM_finds_15 : decode b_EM_finds 15 = .ok (.ifCond .ne 36, 3) := by decide +kernel
theorem d_EM_finds_18 : decode b_EM_finds 18 = .ok (.iload_n 2, 1) := by decide +kernel
theorem d_EM_finds_19 : decode b_EM_finds 19 = .ok (.aload_n 0, 1) := by decide +kernel
theorem d_EM_finds_20 : decode b_EM_finds 20 = .ok (.getfield 167, 3) := by decide +kernel
theorem d_EM_finds_23 : decode b_EM_finds 23 = .ok (.bipush 24, 2) := by decide +kernel
theorem d_EM_finds_25 : decode b_EM_finds 25 = .ok (.iaload, 1) := by decide +kernel
theorem d_EM_finds_26 : decode b_EM_finds 26 = .ok (.iand, 1) := by decide +kernel
theorem d_EM_finds_27 : decode b_EM_finds 27 = .ok (.iconst 1, 1) := by decide +kernel
theorem d_EM_finds_28 : decode b_EM_finds 28 = .ok (.iload 5, 2) := by decide +kernel
theorem d_EM_finds_30 : decode b_EM_finds 30 = .ok (.ishl, 1) := by decide +kernel
theorem d_EM_finds_31 : decode b_EM_finds 31 = .ok (.iand, 1) := by decide +kernel
theorem d_EM_finds_32 : decode b_EM_finds 32 = .ok (.ifCond .eq 23, 3) := by decide +kernel
theorem d_EM_finds_35 : decode b_EM_finds 35 = .ok (.aload_n 0, 1) := by decide +kernel
theorem d_EM_finds_36 : decode b_EM_finds 36 = .ok (.getfield 80, 3) := by decide +kernel
theorem d_EM_finds_39 : decode b_EM_finds 39 = .ok (.bipush 8, 2) := by decide +kernel
theorem d_EM_finds_41 : decode b_EM_finds 41 = .ok (.iload_n 1, 1) := by decide +kernel
theorem d_EM_finds_42 : decode b_EM_finds 42 = .ok (.imul, 1) := by decide +kernel
theorem d_EM_finds_43 : decode b_EM_finds 43 = .ok (.iload 5, 2) := by decide +kernel
theorem d_EM_finds_45 : decode b_EM_finds 45 = .ok (.iadd, 1) := by decide +kernel
theorem d_EM_finds_46 : decode b_EM_finds 46 = .ok (.iaload, 1) := by decide +kernel
theorem d_EM_finds_47 : decode b_EM_finds 47 = .ok (.iload_n 3, 1) := by decide +kernel
theorem d_EM_finds_48 : decode b_EM_finds 48 = .ok (.if_icmp .le 7, 3) := by decide +kernel
theorem d_EM_finds_51 : decode b_EM_finds 51 = .ok (.iconst 1, 1) := by decide +kernel
theorem d_EM_finds_52 : decode b_EM_finds 52 = .ok (.goto 4, 3) := by decide +kernel
theorem d_EM_finds_55 : decode b_EM_finds 55 = .ok (.iconst 0, 1) := by decide +kernel
theorem d_EM_finds_56 : decode b_EM_finds 56 = .ok (.istore 4, 2) := by decide +kernel
theorem d_EM_finds_58 : decode b_EM_finds 58 = .ok (.iinc 5 1, 3) := by decide +kernel
theorem d_EM_finds_61 : decode b_EM_finds 61 = .ok (.goto (-55), 3) := by decide +kernel
theorem d_EM_finds_64 : decode b_EM_finds 64 = .ok (.iconst 0, 1) := by decide +kernel
theorem d_EM_finds_65 : decode b_EM_finds 65 = .ok (.istore 5, 2) := by decide +kernel
theorem d_EM_finds_67 : decode b_EM_finds 67 = .ok (.iload 5, 2) := by decide +kernel
theorem d_EM_finds_69 : decode b_EM_finds 69 = .ok (.bipush 8, 2) := by decide +kernel
theorem d_EM_finds_71 : decode b_EM_finds 71 = .ok (.if_icmp .ge 49, 3) := by decide +kernel
theorem d_EM_finds_74 : decode b_EM_finds 74 = .ok (.iload 4, 2) := by decide +kernel
theorem d_EM_finds_76 : decode b_EM_finds 76 = .ok (.ifCond .ne 44, 3) := by decide +kernel
theorem d_EM_finds_79 : decode b_EM_finds 79 = .ok (.iload_n 2, 1) := by decide +kernel
theorem d_EM_finds_80 : decode b_EM_finds 80 = .ok (.aload_n 0, 1) := by decide +kernel
theorem d_EM_finds_81 : decode b_EM_finds 81 = .ok (.getfield 170, 3) := by decide +kernel
theorem d_EM_finds_84 : decode b_EM_finds 84 = .ok (.bipush 24, 2) := by decide +kernel
theorem d_EM_finds_86 : decode b_EM_finds 86 = .ok (.iaload, 1) := by decide +kernel
theorem d_EM_finds_87 : decode b_EM_finds 87 = .ok (.iand, 1) := by decide +kernel
theorem d_EM_finds_88 : decode b_EM_finds 88 = .ok (.iconst 1, 1) := by decide +kernel
theorem d_EM_finds_89 : decode b_EM_finds 89 = .ok (.iload 5, 2) := by decide +kernel
theorem d_EM_finds_91 : decode b_EM_finds 91 = .ok (.ishl, 1) := by decide +kernel
theorem d_EM_finds_92 : decode b_EM_finds 92 = .ok (.iand, 1) := by decide +kernel
theorem d_EM_finds_93 : decode b_EM_finds 93 = .ok (.ifCond .eq 21, 3) := by decide +kernel
theorem d_EM_finds_96 : decode b_EM_finds 96 = .ok (.aload_n 0, 1) := by decide +kernel
theorem d_EM_finds_97 : decode b_EM_finds 97 = .ok (.getfield 80, 3) := by decide +kernel
theorem d_EM_finds_100 : decode b_EM_finds 100 = .ok (.bipush 8, 2) := by decide +kernel
theorem d_EM_finds_102 : decode b_EM_finds 102 = .ok (.iload_n 1, 1) := by decide +kernel
theorem d_EM_finds_103 : decode b_EM_finds 103 = .ok (.imul, 1) := by decide +kernel
theorem d_EM_finds_104 : decode b_EM_finds 104 = .ok (.iload 5, 2) := by decide +kernel
theorem d_EM_finds_106 : decode b_EM_finds 106 = .ok (.iadd, 1) := by decide +kernel
theorem d_EM_finds_107 : decode b_EM_finds 107 = .ok (.aload_n 0, 1) := by decide +kernel
theorem d_EM_finds_108 : decode b_EM_finds 108 = .ok (.getfield 71, 3) := by decide +kernel
theorem d_EM_finds_111 : decode b_EM_finds 111 = .ok (.iload_n 1, 1) := by decide +kernel
theorem d_EM_finds_112 : decode b_EM_finds 112 = .ok (.iaload, 1) := by decide +kernel
theorem d_EM_finds_113 : decode b_EM_finds 113 = .ok (.iastore, 1) := by decide +kernel
theorem d_EM_finds_114 : decode b_EM_finds 114 = .ok (.iinc 5 1, 3) := by decide +kernel
theorem d_EM_finds_117 : decode b_EM_finds 117 = .ok (.goto (-50), 3) := by decide +kernel
theorem d_EM_finds_120 : decode b_EM_finds 120 = .ok (.iload 4, 2) := by decide +kernel
theorem d_EM_finds_122 : decode b_EM_finds 122 = .ok (.ireturn, 1) := by decide +kernel
