theorem d_EM_pushOut_0 : decode b_EM_pushOut 0 = .ok (.iconst 0, 1) := by decide +kernel
theorem d_EM_pushOut_1 : decode b_EM_pushOut 1 = .ok (.istore_n 3, 1) := by decide +kernel
theorem d_EM_pushOut_2 : decode b_EM_pushOut 2 = .ok (.iconst 0, 1) := by decide +kernel
theorem d_EM_pushOut_3 : decode b_EM_pushOut 3 = .ok (.istore 4, 2) := by decide +kernel
theorem d_EM_pushOut_5 : decode b_EM_pushOut 5 = .ok (.iload 4, 2) := by decide +kernel
theorem d_EM_pushOut_7 : decode b_EM_pushOut 7 = .ok (.iconst 3, 1) := by decide +kernel
theorem d_EM_pushOut_8 : decode b_EM_pushOut 8 = .ok (.if_icmp .ge 126, 3) := by decide +kernel
theorem d_EM_pushOut_11 : decode b_EM_pushOut 11 = .ok (.aload_n 0, 1) := by decide +kernel
theorem d_EM_pushOut_12 : decode b_EM_pushOut 12 = .ok (.getfield 65, 3) := by decide +kernel
theorem d_EM_pushOut_15 : decode b_EM_pushOut 15 = .ok (.iload_n 1, 1) := by decide +kernel
theorem d_EM_pushOut_16 : decode b_EM_pushOut 16 = .ok (.iaload, 1) := by decide +kernel
theorem d_EM_pushOut_17 : decode b_EM_pushOut 17 = .ok (.iload 4, 2) := by decide +kernel
theorem d_EM_pushOut_19 : decode b_EM_pushOut 19 = .ok (.ishr, 1) := by decide +kernel
theorem d_EM_pushOut_20 : decode b_EM_pushOut 20 = .ok (.iconst 1, 1) := by decide +kernel
theorem d_EM_pushOut_21 : decode b_EM_pushOut 21 = .ok (.iand, 1) := by decide +kernel
theorem d_EM_pushOut_22 : decode b_EM_pushOut 22 = .ok (.iconst 1, 1) := by decide +kernel
theorem d_EM_pushOut_23 : decode b_EM_pushOut 23 = .ok (.if_icmp .ne 105, 3) := by decide +kernel
theorem d_EM_pushOut_26 : decode b_EM_pushOut 26 = .ok (.aload_n 0, 1) := by decide +kernel
theorem d_EM_pushOut_27 : decode b_EM_pushOut 27 = .ok (.getfield 116, 3) := by decide +kernel
theorem d_EM_pushOut_30 : decode b_EM_pushOut 30 = .ok (.iload_n 2, 1) := by decide +kernel
theorem d_EM_pushOut_31 : decode b_EM_pushOut 31 = .ok (.iaload, 1) := by decide +kernel
theorem d_EM_pushOut_32 : decode b_EM_pushOut 32 = .ok (.iload 4, 2) := by decide +kernel
theorem d_EM_pushOut_34 : decode b_EM_pushOut 34 = .ok (.ishr, 1) := by decide +kernel
theorem d_EM_pushOut_35 : decode b_EM_pushOut 35 = .ok (.iconst 1, 1) := by decide +kernel
theorem d_EM_pushOut_36 : decode b_EM_pushOut 36 = .ok (.iand, 1) := by decide +kernel
theorem d_EM_pushOut_37 : decode b_EM_pushOut 37 = .ok (.ifCond .ne 91, 3) := by decide +kernel
theorem d_EM_pushOut_40 : decode b_EM_pushOut 40 = .ok (.aload_n 0, 1) := by decide +kernel
theorem d_EM_pushOut_41 : decode b_EM_pushOut 41 = .ok (.bipush 6, 2) := by decide +kernel
theorem d_EM_pushOut_43 : decode b_EM_pushOut 43 = .ok (.iload 4, 2) := by decide +kernel
theorem d_EM_pushOut_45 : decode b_EM_pushOut 45 = .ok (.iload_n 1, 1) := by decide +kernel
theorem d_EM_pushOut_46 : decode b_EM_pushOut 46 = .ok (.aload_n 0, 1) := by decide +kernel
theorem d_EM_pushOut_47 : decode b_EM_pushOut 47 = .ok (.getfield 104, 3) := by decide +kernel
theorem d_EM_pushOut_50 : decode b_EM_pushOut 50 = .ok (.iload_n 2, 1) := by decide +kernel
theorem d_EM_pushOut_51 : decode b_EM_pushOut 51 = .ok (.iaload, 1) := by decide +kernel
theorem d_EM_pushOut_52 : decode b_EM_pushOut 52 = .ok (.iconst 0, 1) := by decide +kernel
theorem d_EM_pushOut_53 : decode b_EM_pushOut 53 = .ok (.invokevirtual 193, 3) := by decide +kernel
theorem d_EM_pushOut_56 : decode b_EM_pushOut 56 = .ok (.istore 5, 2) := by decide +kernel
theorem d_EM_pushOut_58 : decode b_EM_pushOut 58 = .ok (.aload_n 0, 1) := by decide +kernel
theorem d_EM_pushOut_59 : decode b_EM_pushOut 59 = .ok (.getfield 167, 3) := by decide +kernel
theorem d_EM_pushOut_62 : decode b_EM_pushOut 62 = .ok (.iload 5, 2) := by decide +kernel
theorem d_EM_pushOut_64 : decode b_EM_pushOut 64 = .ok (.aload_n 0, 1) := by decide +kernel
theorem d_EM_pushOut_65 : decode b_EM_pushOut 65 = .ok (.getfield 107, 3) := by decide +kernel
theorem d_EM_pushOut_68 : decode b_EM_pushOut 68 = .ok (.iload_n 2, 1) := by decide +kernel
theorem d_EM_pushOut_69 : decode b_EM_pushOut 69 = .ok (.iaload, 1) := by decide +kernel
theorem d_EM_pushOut_70 : decode b_EM_pushOut 70 = .ok (.iastore, 1) := by decide +kernel
theorem d_EM_pushOut_71 : decode b_EM_pushOut 71 = .ok (.aload_n 0, 1) := by decide +kernel
theorem d_EM_pushOut_72 : decode b_EM_pushOut 72 = .ok (.getfield 170, 3) := by decide +kernel
theorem d_EM_pushOut_75 : decode b_EM_pushOut 75 = .ok (.iload 5, 2) := by decide +kernel
theorem d_EM_pushOut_77 : decode b_EM_pushOut 77 = .ok (.aload_n 0, 1) := by decide +kernel
theorem d_EM_pushOut_78 : decode b_EM_pushOut 78 = .ok (.getfield 110, 3) := by decide +kernel
theorem d_EM_pushOut_81 : decode b_EM_pushOut 81 = .ok (.iload_n 2, 1) := by decide +kernel
theorem d_EM_pushOut_82 : decode b_EM_pushOut 82 = .ok (.iaload, 1) := by decide +kernel
theorem d_EM_pushOut_83 : decode b_EM_pushOut 83 = .ok (.iastore, 1) := by decide +kernel
theorem d_EM_pushOut_84 : decode b_EM_pushOut 84 = .ok (.iconst 0, 1) := by decide +kernel
theorem d_EM_pushOut_85 : decode b_EM_pushOut 85 = .ok (.istore 6, 2) := by decide +kernel
theorem d_EM_pushOut_87 : decode b_EM_pushOut 87 = .ok (.iload 6, 2) := by decide +kernel
theorem d_EM_pushOut_89 : decode b_EM_pushOut 89 = .ok (.bipush 8, 2) := by decide +kernel
theorem d_EM_pushOut_91 : decode b_EM_pushOut 91 = .ok (.if_icmp .ge 34, 3) := by decide +kernel
theorem d_EM_pushOut_94 : decode b_EM_pushOut 94 = .ok (.aload_n 0, 1) := by decide +kernel
theorem d_EM_pushOut_95 : decode b_EM_pushOut 95 = .ok (.getfield 173, 3) := by decide +kernel
theorem d_EM_pushOut_98 : decode b_EM_pushOut 98 = .ok (.bipush 8, 2) := by decide +kernel
theorem d_EM_pushOut_100 : decode b_EM_pushOut 100 = .ok (.iload 5, 2) := by decide +kernel
theorem d_EM_pushOut_102 : decode b_EM_pushOut 102 = .ok (.imul, 1) := by decide +kernel
theorem d_EM_pushOut_103 : decode b_EM_pushOut 103 = .ok (.iload 6, 2) := by decide +kernel
theorem d_EM_pushOut_105 : decode b_EM_pushOut 105 = .ok (.iadd, 1) := by decide +kernel
theorem d_EM_pushOut_106 : decode b_EM_pushOut 106 = .ok (.aload_n 0, 1) := by decide +kernel
theorem d_EM_pushOut_107 : decode b_EM_pushOut 107 = .ok (.getfield 113, 3) := by decide +kernel
theorem d_EM_pushOut_110 : decode b_EM_pushOut 110 = .ok (.bipush 8, 2) := by decide +kernel
theorem d_EM_pushOut_112 : decode b_EM_pushOut 112 = .ok (.iload_n 2, 1) := by decide +kernel
theorem d_EM_pushOut_113 : decode b_EM_pushOut 113 = .ok (.imul, 1) := by decide +kernel
theorem d_EM_pushOut_114 : decode b_EM_pushOut 114 = .ok (.iload 6, 2) := by decide +kernel
theorem d_EM_pushOut_116 : decode b_EM_pushOut 116 = .ok (.iadd, 1) := by decide +kernel
theorem d_EM_pushOut_117 : decode b_EM_pushOut 117 = .ok (.iaload, 1) := by decide +kernel
theorem d_EM_pushOut_118 : decode b_EM_pushOut 118 = .ok (.iastore, 1) := by decide +kernel
theorem d_EM_pushOut_119 : decode b_EM_pushOut 119 = .ok (.iinc 6 1, 3) := by decide +kernel
theorem d_EM_pushOut_122 : decode b_EM_pushOut 122 = .ok (.goto (-35), 3) := by decide +kernel
theorem d_EM_pushOut_125 : decode b_EM_pushOut 125 = .ok (.iinc 3 1, 3) := by decide +kernel
theorem d_EM_pushOut_128 : decode b_EM_pushOut 128 = .ok (.iinc 4 1, 3) := by decide +kernel
theorem d_EM_pushOut_131 : decode b_EM_pushOut 131 = .ok (.goto (-126), 3) := by decide +kernel
theorem d_EM_pushOut_134 : decode b_EM_pushOut 134 = .ok (.iload_n 3, 1) := by decide +kernel
theorem d_EM_pushOut_135 : decode b_EM_pushOut 135 = .ok (.ireturn, 1) := by decide +kernel
theorem d_EM_judge_0 : decode b_EM_judge 0 = .ok (.aload_n 0, 1) := by decide +kernel
theorem d_EM_judge_1 : decode b_EM_judge 1 = .ok (.getfield 101, 3) := by decide +kernel
theorem d_EM_judge_4 : decode b_EM_judge 4 = .ok (.iload_n 2, 1) := by decide +kernel
theorem d_EM_judge_5 : decode b_EM_judge 5 = .ok (.iaload, 1) := by decide +kernel
theorem d_EM_judge_6 : decode b_EM_judge 6 = .ok (.bipush 8, 2) := by decide +kernel
theorem d_EM_judge_8 : decode b_EM_judge 8 = .ok (.if_icmp .ne 4, 3) := by decide +kernel
theorem d_EM_judge_11 : decode b_EM_judge 11 = .ok (.return_, 1) := by decide +kernel
theorem d_EM_judge_12 : decode b_EM_judge 12 = .ok (.iload_n 3, 1) := by decide +kernel
theorem d_EM_judge_13 : decode b_EM_judge 13 = .ok (.aload_n 0, 1) := by decide +kernel
theorem d_EM_judge_14 : decode b_EM_judge 14 = .ok (.getfield 68, 3) := by decide +kernel
theorem d_EM_judge_17 : decode b_EM_judge 17 = .ok (.iload_n 2, 1) := by decide +kernel
theorem d_EM_judge_18 : decode b_EM_judge 18 = .ok (.iaload, 1) := by decide +kernel
theorem d_EM_judge_19 : decode b_EM_judge 19 = .ok (.if_icmp .lt 16, 3) := by decide +kernel
theorem d_EM_judge_22 : decode b_EM_judge 22 = .ok (.iload_n 3, 1) := by decide +kernel
theorem d_EM_judge_23 : decode b_EM_judge 23 = .ok (.aload_n 0, 1) := by decide +kernel
theorem d_EM_judge_24 : decode b_EM_judge 24 = .ok (.getfield 71, 3) := by decide +kernel
theorem d_EM_judge_27 : decode b_EM_judge 27 = .ok (.iload_n 2, 1) := by decide +kernel
theorem d_EM_judge_28 : decode b_EM_judge 28 = .ok (.iaload, 1) := by decide +kernel
theorem d_EM_judge_29 : decode b_EM_judge 29 = .ok (.bipush 12, 2) := by decide +kernel
theorem d_EM_judge_31 : decode b_EM_judge 31 = .ok (.isub, 1) := by decide +kernel
theorem d_EM_judge_32 : decode b_EM_judge 32 = .ok (.if_icmp .ge 15, 3) := by decide +kernel
theorem d_EM_judge_35 : decode b_EM_judge 35 = .ok (.aload_n 0, 1) := by decide +kernel
theorem d_EM_judge_36 : decode b_EM_judge 36 = .ok (.iload_n 1, 1) := by decide +kernel
theorem d_EM_judge_37 : decode b_EM_judge 37 = .ok (.iload_n 2, 1) := by decide +kernel
theorem d_EM_judge_38 : decode b_EM_judge 38 = .ok (.iconst 0, 1) := by decide +kernel
theorem d_EM_judge_39 : decode b_EM_judge 39 = .ok (.iload 4, 2) := by decide +kernel
theorem d_EM_judge_41 : decode b_EM_judge 41 = .ok (.bipush 6, 2) := by decide +kernel
theorem d_EM_judge_43 : decode b_EM_judge 43 = .ok (.invokevirtual 217, 3) := by decide +kernel
theorem d_EM_judge_46 : decode b_EM_judge 46 = .ok (.return_, 1) := by decide +kernel
theorem d_EM_judge_47 : decode b_EM_judge 47 = .ok (.aload_n 0, 1) := by decide +kernel
theorem d_EM_judge_48 : decode b_EM_judge 48 = .ok (.getfield 71, 3) := by decide +kernel
theorem d_EM_judge_51 : decode b_EM_judge 51 = .ok (.iload_n 2, 1) := by decide +kernel
theorem d_EM_judge_52 : decode b_EM_judge 52 = .ok (.dup2, 1) := by decide +kernel
theorem d_EM_judge_53 : decode b_EM_judge 53 = .ok (.iaload, 1) := by decide +kernel
theorem d_EM_judge_54 : decode b_EM_judge 54 = .ok (.iconst 1, 1) := by decide +kernel
theorem d_EM_judge_55 : decode b_EM_judge 55 = .ok (.iadd, 1) := by decide +kernel
theorem d_EM_judge_56 : decode b_EM_judge 56 = .ok (.iastore, 1) := by decide +kernel
theorem d_EM_judge_57 : decode b_EM_judge 57 = .ok (.aload_n 0, 1) := by decide +kernel
theorem d_EM_judge_58 : decode b_EM_judge 58 = .ok (.iload_n 2, 1) := by decide +kernel
theorem d_EM_judge_59 : decode b_EM_judge 59 = .ok (.bipush 15, 2) := by decide +kernel
theorem d_EM_judge_61 : decode b_EM_judge 61 = .ok (.iload_n 3, 1) := by decide +kernel
theorem d_EM_judge_62 : decode b_EM_judge 62 = .ok (.invokevirtual 220, 3) := by decide +kernel
theorem d_EM_judge_65 : decode b_EM_judge 65 = .ok (.istore 5, 2) := by decide +kernel
theorem d_EM_judge_67 : decode b_EM_judge 67 = .ok (.aload_n 0, 1) := by decide +kernel
theorem d_EM_judge_68 : decode b_EM_judge 68 = .ok (.iload_n 2, 1) := by decide +kernel
theorem d_EM_judge_69 : decode b_EM_judge 69 = .ok (.sipush 240, 3) := by decide +kernel
theorem d_EM_judge_72 : decode b_EM_judge 72 = .ok (.iload_n 3, 1) := by decide +kernel
theorem d_EM_judge_73 : decode b_EM_judge 73 = .ok (.invokevirtual 220, 3) := by decide +kernel
theorem d_EM_judge_76 : decode b_EM_judge 76 = .ok (.istore 6, 2) := by decide +kernel
theorem d_EM_judge_78 : decode b_EM_judge 78 = .ok (.iload 5, 2) := by decide +kernel
theorem d_EM_judge_80 : decode b_EM_judge 80 = .ok (.ifCond .ne 8, 3) := by decide +kernel
theorem d_EM_judge_83 : decode b_EM_judge 83 = .ok (.iload 6, 2) := by decide +kernel
theorem d_EM_judge_85 : decode b_EM_judge 85 = .ok (.ifCond .eq 14, 3) := by decide +kernel
theorem d_EM_judge_88 : decode b_EM_judge 88 = .ok (.aload_n 0, 1) := by decide +kernel
theorem d_EM_judge_89 : decode b_EM_judge 89 = .ok (.iload_n 1, 1) := by decide +kernel
theorem d_EM_judge_90 : decode b_EM_judge 90 = .ok (.iload_n 2, 1) := by decide +kernel
theorem d_EM_judge_91 : decode b_EM_judge 91 = .ok (.iconst 0, 1) := by decide +kernel
theorem d_EM_judge_92 : decode b_EM_judge 92 = .ok (.iload 4, 2) := by decide +kernel
theorem d_EM_judge_94 : decode b_EM_judge 94 = .ok (.iconst 5, 1) := by decide +kernel
theorem d_EM_judge_95 : decode b_EM_judge 95 = .ok (.invokevirtual 217, 3) := by decide +kernel
theorem d_EM_judge_98 : decode b_EM_judge 98 = .ok (.return_, 1) := by decide +kernel
theorem d_EM_judge_99 : decode b_EM_judge 99 = .ok (.bipush 8, 2) := by decide +kernel
theorem d_EM_judge_101 : decode b_EM_judge 101 = .ok (.iload_n 2, 1) := by decide +kernel
theorem d_EM_judge_102 : decode b_EM_judge 102 = .ok (.imul, 1) := by decide +kernel
theorem d_EM_judge_103 : decode b_EM_judge 103 = .ok (.aload_n 0, 1) := by decide +kernel
theorem d_EM_judge_104 : decode b_EM_judge 104 = .ok (.getfield 101, 3) := by decide +kernel
theorem d_EM_judge_107 : decode b_EM_judge 107 = .ok (.iload_n 2, 1) := by decide +kernel
theorem d_EM_judge_108 : decode b_EM_judge 108 = .ok (.iaload, 1) := by decide +kernel
theorem d_EM_judge_109 : decode b_EM_judge 109 = .ok (.iadd, 1) := by decide +kernel
theorem d_EM_judge_110 : decode b_EM_judge 110 = .ok (.istore 7, 2) := by decide +kernel
theorem d_EM_judge_112 : decode b_EM_judge 112 = .ok (.aload_n 0, 1) := by decide +kernel
theorem d_EM_judge_113 : decode b_EM_judge 113 = .ok (.getfield 101, 3) := by decide +kernel
theorem d_EM_judge_116 : decode b_EM_judge 116 = .ok (.iload_n 2, 1) := by decide +kernel
theorem d_EM_judge_117 : decode b_EM_judge 117 = .ok (.dup2, 1) := by decide +kernel
theorem d_EM_judge_118 : decode b_EM_judge 118 = .ok (.iaload, 1) := by decide +kernel
theorem d_EM_judge_119 : decode b_EM_judge 119 = .ok (.iconst 1, 1) := by decide +kernel
theorem d_EM_judge_120 : decode b_EM_judge 120 = .ok (.iadd, 1) := by decide +kernel
theorem d_EM_judge_121 : decode b_EM_judge 121 = .ok (.iastore, 1) := by decide +kernel
theorem d_EM_judge_122 : decode b_EM_judge 122 = .ok (.aload_n 0, 1) := by decide +kernel
theorem d_EM_judge_123 : decode b_EM_judge 123 = .ok (.getfield 104, 3) := by decide +kernel
theorem d_EM_judge_126 : decode b_EM_judge 126 = .ok (.iload 7, 2) := by decide +kernel
theorem d_EM_judge_128 : decode b_EM_judge 128 = .ok (.aload_n 0, 1) := by decide +kernel
theorem d_EM_judge_129 : decode b_EM_judge 129 = .ok (.getfield 71, 3) := by decide +kernel
theorem d_EM_judge_132 : decode b_EM_judge 132 = .ok (.iload_n 2, 1) := by decide +kernel
theorem d_EM_judge_133 : decode b_EM_judge 133 = .ok (.iaload, 1) := by decide +kernel
theorem d_EM_judge_134 : decode b_EM_judge 134 = .ok (.iastore, 1) := by decide +kernel
theorem d_EM_judge_135 : decode b_EM_judge 135 = .ok (.aload_n 0, 1) := by decide +kernel
theorem d_EM_judge_136 : decode b_EM_judge 136 = .ok (.getfield 107, 3) := by decide +kernel
theorem d_EM_judge_139 : decode b_EM_judge 139 = .ok (.iload 7, 2) := by decide +kernel
theorem d_EM_judge_141 : decode b_EM_judge 141 = .ok (.aload_n 0, 1) := by decide +kernel
theorem d_EM_judge_142 : decode b_EM_judge 142 = .ok (.getfield 74, 3) := by decide +kernel
theorem d_EM_judge_145 : decode b_EM_judge 145 = .ok (.iload_n 2, 1) := by decide +kernel
theorem d_EM_judge_146 : decode b_EM_judge 146 = .ok (.iaload, 1) := by decide +kernel
theorem d_EM_judge_147 : decode b_EM_judge 147 = .ok (.iastore, 1) := by decide +kernel
theorem d_EM_judge_148 : decode b_EM_judge 148 = .ok (.aload_n 0, 1) := by decide +kernel
theorem d_EM_judge_149 : decode b_EM_judge 149 = .ok (.getfield 110, 3) := by decide +kernel
theorem d_EM_judge_152 : decode b_EM_judge 152 = .ok (.iload 7, 2) := by decide +kernel
theorem d_EM_judge_154 : decode b_EM_judge 154 = .ok (.aload_n 0, 1) := by decide +kernel
theorem d_EM_judge_155 : decode b_EM_judge 155 = .ok (.getfield 170, 3) := by decide +kernel
theorem d_EM_judge_158 : decode b_EM_judge 158 = .ok (.bipush 24, 2) := by decide +kernel
theorem d_EM_judge_160 : decode b_EM_judge 160 = .ok (.iaload, 1) := by decide +kernel
theorem d_EM_judge_161 : decode b_EM_judge 161 = .ok (.iastore, 1) := by decide +kernel
theorem d_EM_judge_162 : decode b_EM_judge 162 = .ok (.aload_n 0, 1) := by decide +kernel
theorem d_EM_judge_163 : decode b_EM_judge 163 = .ok (.getfield 116, 3) := by decide +kernel
theorem d_EM_judge_166 : decode b_EM_judge 166 = .ok (.iload 7, 2) := by decide +kernel
theorem d_EM_judge_168 : decode b_EM_judge 168 = .ok (.iconst 0, 1) := by decide +kernel
theorem d_EM_judge_169 : decode b_EM_judge 169 = .ok (.iastore, 1) := by decide +kernel
theorem d_EM_judge_170 : decode b_EM_judge 170 = .ok (.aload_n 0, 1) := by decide +kernel
theorem d_EM_judge_171 : decode b_EM_judge 171 = .ok (.getfield 119, 3) := by decide +kernel
theorem d_EM_judge_174 : decode b_EM_judge 174 = .ok (.iload 7, 2) := by decide +kernel
theorem d_EM_judge_176 : decode b_EM_judge 176 = .ok (.iload_n 1, 1) := by decide +kernel
theorem d_EM_judge_177 : decode b_EM_judge 177 = .ok (.iastore, 1) := by decide +kernel
theorem d_EM_judge_178 : decode b_EM_judge 178 = .ok (.aload_n 0, 1) := by decide +kernel
theorem d_EM_judge_179 : decode b_EM_judge 179 = .ok (.getfield 122, 3) := by decide +kernel
theorem d_EM_judge_182 : decode b_EM_judge 182 = .ok (.iload 7, 2) := by decide +kernel
theorem d_EM_judge_184 : decode b_EM_judge 184 = .ok (.iload 4, 2) := by decide +kernel
theorem d_EM_judge_186 : decode b_EM_judge 186 = .ok (.iastore, 1) := by decide +kernel
theorem d_EM_judge_187 : decode b_EM_judge 187 = .ok (.iconst 0, 1) := by decide +kernel
theorem d_EM_judge_188 : decode b_EM_judge 188 = .ok (.istore 8, 2) := by decide +kernel
theorem d_EM_judge_190 : decode b_EM_judge 190 = .ok (.iload 8, 2) := by decide +kernel
theorem d_EM_judge_192 : decode b_EM_judge 192 = .ok (.bipush 8, 2) := by decide +kernel
theorem d_EM_judge_194 : decode b_EM_judge 194 = .ok (.if_icmp .ge 33, 3) := by decide +kernel
theorem d_EM_judge_197 : decode b_EM_judge 197 = .ok (.aload_n 0, 1) := by decide +kernel
theorem d_EM_judge_198 : decode b_EM_judge 198 = .ok (.getfield 113, 3) := by decide +kernel
theorem d_EM_judge_201 : decode b_EM_judge 201 = .ok (.bipush 8, 2) := by decide +kernel
theorem d_EM_judge_203 : decode b_EM_judge 203 = .ok (.iload 7, 2) := by decide +kernel
theorem d_EM_judge_205 : decode b_EM_judge 205 = .ok (.imul, 1) := by decide +kernel
theorem d_EM_judge_206 : decode b_EM_judge 206 = .ok (.iload 8, 2) := by decide +kernel
theorem d_EM_judge_208 : decode b_EM_judge 208 = .ok (.iadd, 1) := by decide +kernel
theorem d_EM_judge_209 : decode b_EM_judge 209 = .ok (.aload_n 0, 1) := by decide +kernel
theorem d_EM_judge_210 : decode b_EM_judge 210 = .ok (.getfield 173, 3) := by decide +kernel
theorem d_EM_judge_213 : decode b_EM_judge 213 = .ok (.sipush 192, 3) := by decide +kernel
theorem d_EM_judge_216 : decode b_EM_judge 216 = .ok (.iload 8, 2) := by decide +kernel
theorem d_EM_judge_218 : decode b_EM_judge 218 = .ok (.iadd, 1) := by decide +kernel
theorem d_EM_judge_219 : decode b_EM_judge 219 = .ok (.iaload, 1) := by decide +kernel
theorem d_EM_judge_220 : decode b_EM_judge 220 = .ok (.iastore, 1) := by decide +kernel
theorem d_EM_judge_221 : decode b_EM_judge 221 = .ok (.iinc 8 1, 3) := by decide +kernel
theorem d_EM_judge_224 : decode b_EM_judge 224 = .ok (.goto (-34), 3) := by decide +kernel
theorem d_EM_judge_227 : decode b_EM_judge 227 = .ok (.aload_n 0, 1) := by decide +kernel
theorem d_EM_judge_228 : decode b_EM_judge 228 = .ok (.getfield 74, 3) := by decide +kernel
theorem d_EM_judge_231 : decode b_EM_judge 231 = .ok (.iload_n 2, 1) := by decide +kernel
theorem d_EM_judge_232 : decode b_EM_judge 232 = .ok (.aload_n 0, 1) := by decide +kernel
theorem d_EM_judge_233 : decode b_EM_judge 233 = .ok (.getfield 71, 3) := by decide +kernel
theorem d_EM_judge_236 : decode b_EM_judge 236 = .ok (.iload_n 2, 1) := by decide +kernel
theorem d_EM_judge_237 : decode b_EM_judge 237 = .ok (.iaload, 1) := by decide +kernel
theorem d_EM_judge_238 : decode b_EM_judge 238 = .ok (.iastore, 1) := by decide +kernel
theorem d_EM_judge_239 : decode b_EM_judge 239 = .ok (.aload_n 0, 1) := by decide +kernel
theorem d_EM_judge_240 : decode b_EM_judge 240 = .ok (.iload_n 2, 1) := by decide +kernel
theorem d_EM_judge_241 : decode b_EM_judge 241 = .ok (.iload 7, 2) := by decide +kernel
theorem d_EM_judge_243 : decode b_EM_judge 243 = .ok (.invokevirtual 224, 3) := by decide +kernel
theorem d_EM_judge_246 : decode b_EM_judge 246 = .ok (.pop, 1) := by decide +kernel
theorem d_EM_judge_247 : decode b_EM_judge 247 = .ok (.return_, 1) := by decide +kernel
theorem d_EM_copyWay_0 : decode b_EM_copyWay 0 = .ok (.aload_n 0, 1) := by decide +kernel
theorem d_EM_copyWay_1 : decode b_EM_copyWay 1 = .ok (.getfield 104, 3) := by decide +kernel
theorem d_EM_copyWay_4 : decode b_EM_copyWay 4 = .ok (.iload_n 1, 1) := by decide +kernel
theorem d_EM_copyWay_5 : decode b_EM_copyWay 5 = .ok (.aload_n 0, 1) := by decide +kernel
theorem d_EM_copyWay_6 : decode b_EM_copyWay 6 = .ok (.getfield 104, 3) := by decide +kernel
theorem d_EM_copyWay_9 : decode b_EM_copyWay 9 = .ok (.iload_n 1, 1) := by decide +kernel
theorem d_EM_copyWay_10 : decode b_EM_copyWay 10 = .ok (.iconst 1, 1) := by decide +kernel
theorem d_EM_copyWay_11 : decode b_EM_copyWay 11 = .ok (.iadd, 1) := by decide +kernel
theorem d_EM_copyWay_12 : decode b_EM_copyWay 12 = .ok (.iaload, 1) := by decide +kernel
theorem d_EM_copyWay_13 : decode b_EM_copyWay 13 = .ok (.iastore, 1) := by decide +kernel
theorem d_EM_copyWay_14 : decode b_EM_copyWay 14 = .ok (.aload_n 0, 1) := by decide +kernel
theorem d_EM_copyWay_15 : decode b_EM_copyWay 15 = .ok (.getfield 107, 3) := by decide +kernel
theorem d_EM_copyWay_18 : decode b_EM_copyWay 18 = .ok (.iload_n 1, 1) := by decide +kernel
theorem d_EM_copyWay_19 : decode b_EM_copyWay 19 = .ok (.aload_n 0, 1) := by decide +kernel
theorem d_EM_copyWay_20 : decode b_EM_copyWay 20 = .ok (.getfield 107, 3) := by decide +kernel
theorem d_EM_copyWay_23 : decode b_EM_copyWay 23 = .ok (.iload_n 1, 1) := by decide +kernel
theorem d_EM_copyWay_24 : decode b_EM_copyWay 24 = .ok (.iconst 1, 1) := by decide +kernel
theorem d_EM_copyWay_25 : decode b_EM_copyWay 25 = .ok (.iadd, 1) := by decide +kernel
theorem d_EM_copyWay_26 : decode b_EM_copyWay 26 = .ok (.iaload, 1) := by decide +kernel
theorem d_EM_copyWay_27 : decode b_EM_copyWay 27 = .ok (.iastore, 1) := by decide +kernel
theorem d_EM_copyWay_28 : decode b_EM_copyWay 28 = .ok (.aload_n 0, 1) := by decide +kernel
theorem d_EM_copyWay_29 : decode b_EM_copyWay 29 = .ok (.getfield 110, 3) := by decide +kernel
theorem d_EM_copyWay_32 : decode b_EM_copyWay 32 = .ok (.iload_n 1, 1) := by decide +kernel
theorem d_EM_copyWay_33 : decode b_EM_copyWay 33 = .ok (.aload_n 0, 1) := by decide +kernel
theorem d_EM_copyWay_34 : decode b_EM_copyWay 34 = .ok (.getfield 110, 3) := by decide +kernel
theorem d_EM_copyWay_37 : decode b_EM_copyWay 37 = .ok (.iload_n 1, 1) := by decide +kernel
theorem d_EM_copyWay_38 : decode b_EM_copyWay 38 = .ok (.iconst 1, 1) := by decide +kernel
theorem d_EM_copyWay_39 : decode b_EM_copyWay 39 = .ok (.iadd, 1) := by decide +kernel
theorem d_EM_copyWay_40 : decode b_EM_copyWay 40 = .ok (.iaload, 1) := by decide +kernel
theorem d_EM_copyWay_41 : decode b_EM_copyWay 41 = .ok (.iastore, 1) := by decide +kernel
theorem d_EM_copyWay_42 : decode b_EM_copyWay 42 = .ok (.aload_n 0, 1) := by decide +kernel
theorem d_EM_copyWay_43 : decode b_EM_copyWay 43 = .ok (.getfield 116, 3) := by decide +kernel
theorem d_EM_copyWay_46 : decode b_EM_copyWay 46 = .ok (.iload_n 1, 1) := by decide +kernel
theorem d_EM_copyWay_47 : decode b_EM_copyWay 47 = .ok (.aload_n 0, 1) := by decide +kernel
theorem d_EM_copyWay_48 : decode b_EM_copyWay 48 = .ok (.getfield 116, 3) := by decide +kernel
theorem d_EM_copyWay_51 : decode b_EM_copyWay 51 = .ok (.iload_n 1, 1) := by decide +kernel
theorem d_EM_copyWay_52 : decode b_EM_copyWay 52 = .ok (.iconst 1, 1) := by decide +kernel
theorem d_EM_copyWay_53 : decode b_EM_copyWay 53 = .ok (.iadd, 1) := by decide +kernel
theorem d_EM_copyWay_54 : decode b_EM_copyWay 54 = .ok (.iaload, 1) := by decide +kernel
theorem d_EM_copyWay_55 : decode b_EM_copyWay 55 = .ok (.iastore, 1) := by decide +kernel
theorem d_EM_copyWay_56 : decode b_EM_copyWay 56 = .ok (.aload_n 0, 1) := by decide +kernel
theorem d_EM_copyWay_57 : decode b_EM_copyWay 57 = .ok (.getfield 119, 3) := by decide +kernel
theorem d_EM_copyWay_60 : decode b_EM_copyWay 60 = .ok (.iload_n 1, 1) := by decide +kernel
theorem d_EM_copyWay_61 : decode b_EM_copyWay 61 = .ok (.aload_n 0, 1) := by decide +kernel
theorem d_EM_copyWay_62 : decode b_EM_copyWay 62 = .ok (.getfield 119, 3) := by decide +kernel
theorem d_EM_copyWay_65 : decode b_EM_copyWay 65 = .ok (.iload_n 1, 1) := by decide +kernel
theorem d_EM_copyWay_66 : decode b_EM_copyWay 66 = .ok (.iconst 1, 1) := by decide +kernel
theorem d_EM_copyWay_67 : decode b_EM_copyWay 67 = .ok (.iadd, 1) := by decide +kernel
theorem d_EM_copyWay_68 : decode b_EM_copyWay 68 = .ok (.iaload, 1) := by decide +kernel
theorem d_EM_copyWay_69 : decode b_EM_copyWay 69 = .ok (.iastore, 1) := by decide +kernel
theorem d_EM_copyWay_70 : decode b_EM_copyWay 70 = .ok (.aload_n 0, 1) := by decide +kernel
theorem d_EM_copyWay_71 : decode b_EM_copyWay 71 = .ok (.getfield 122, 3) := by decide +kernel
theorem d_EM_copyWay_74 : decode b_EM_copyWay 74 = .ok (.iload_n 1, 1) := by decide +kernel
theorem d_EM_copyWay_75 : decode b_EM_copyWay 75 = .ok (.aload_n 0, 1) := by decide +kernel
theorem d_EM_copyWay_76 : decode b_EM_copyWay 76 = .ok (.getfield 122, 3) := by decide +kernel
theorem d_EM_copyWay_79 : decode b_EM_copyWay 79 = .ok (.iload_n 1, 1) := by decide +kernel
theorem d_EM_copyWay_80 : decode b_EM_copyWay 80 = .ok (.iconst 1, 1) := by decide +kernel
theorem d_EM_copyWay_81 : decode b_EM_copyWay 81 = .ok (.iadd, 1) := by decide +kernel
theorem d_EM_copyWay_82 : decode b_EM_copyWay 82 = .ok (.iaload, 1) := by decide +kernel
theorem d_EM_copyWay_83 : decode b_EM_copyWay 83 = .ok (.iastore, 1) := by decide +kernel
theorem d_EM_copyWay_84 : decode b_EM_copyWay 84 = .ok (.iconst 0, 1) := by decide +kernel
theorem d_EM_copyWay_85 : decode b_EM_copyWay 85 = .ok (.istore_n 2, 1) := by decide +kernel
theorem d_EM_copyWay_86 : decode b_EM_copyWay 86 = .ok (.iload_n 2, 1) := by decide +kernel
theorem d_EM_copyWay_87 : decode b_EM_copyWay 87 = .ok (.bipush 8, 2) := by decide +kernel
theorem d_EM_copyWay_89 : decode b_EM_copyWay 89 = .ok (.if_icmp .ge 34, 3) := by decide +kernel
theorem d_EM_copyWay_92 : decode b_EM_copyWay 92 = .ok (.aload_n 0, 1) := by decide +kernel
theorem d_EM_copyWay_93 : decode b_EM_copyWay 93 = .ok (.getfield 113, 3) := by decide +kernel
theorem d_EM_copyWay_96 : decode b_EM_copyWay 96 = .ok (.bipush 8, 2) := by decide +kernel
theorem d_EM_copyWay_98 : decode b_EM_copyWay 98 = .ok (.iload_n 1, 1) := by decide +kernel
theorem d_EM_copyWay_99 : decode b_EM_copyWay 99 = .ok (.imul, 1) := by decide +kernel
theorem d_EM_copyWay_100 : decode b_EM_copyWay 100 = .ok (.iload_n 2, 1) := by decide +kernel
theorem d_EM_copyWay_101 : decode b_EM_copyWay 101 = .ok (.iadd, 1) := by decide +kernel
theorem d_EM_copyWay_102 : decode b_EM_copyWay 102 = .ok (.aload_n 0, 1) := by decide +kernel
theorem d_EM_copyWay_103 : decode b_EM_copyWay 103 = .ok (.getfield 113, 3) := by decide +kernel
theorem d_EM_copyWay_106 : decode b_EM_copyWay 106 = .ok (.bipush 8, 2) := by decide +kernel
theorem d_EM_copyWay_108 : decode b_EM_copyWay 108 = .ok (.iload_n 1, 1) := by decide +kernel
theorem d_EM_copyWay_109 : decode b_EM_copyWay 109 = .ok (.imul, 1) := by decide +kernel
theorem d_EM_copyWay_110 : decode b_EM_copyWay 110 = .ok (.bipush 8, 2) := by decide +kernel
theorem d_EM_copyWay_112 : decode b_EM_copyWay 112 = .ok (.iadd, 1) := by decide +kernel
theorem d_EM_copyWay_113 : decode b_EM_copyWay 113 = .ok (.iload_n 2, 1) := by decide +kernel
theorem d_EM_copyWay_114 : decode b_EM_copyWay 114 = .ok (.iadd, 1) := by decide +kernel
theorem d_EM_copyWay_115 : decode b_EM_copyWay 115 = .ok (.iaload, 1) := by decide +kernel
theorem d_EM_copyWay_116 : decode b_EM_copyWay 116 = .ok (.iastore, 1) := by decide +kernel
theorem d_EM_copyWay_117 : decode b_EM_copyWay 117 = .ok (.iinc 2 1, 3) := by decide +kernel
theorem d_EM_copyWay_120 : decode b_EM_copyWay 120 = .ok (.goto (-34), 3) := by decide +kernel
theorem d_EM_copyWay_123 : decode b_EM_copyWay 123 = .ok (.return_, 1) := by decide +kernel
