theorem d_EM_copyLog_0 : decode b_EM_copyLog 0 = .ok (.aload_n 0, 1) := by decide +kernel
theorem d_EM_copyLog_1 : decode b_EM_copyLog 1 = .ok (.getfield 26, 3) := by decide +kernel
theorem d_EM_copyLog_4 : decode b_EM_copyLog 4 = .ok (.iload_n 2, 1) := by decide +kernel
theorem d_EM_copyLog_5 : decode b_EM_copyLog 5 = .ok (.aload_n 0, 1) := by decide +kernel
theorem d_EM_copyLog_6 : decode b_EM_copyLog 6 = .ok (.getfield 26, 3) := by decide +kernel
theorem d_EM_copyLog_9 : decode b_EM_copyLog 9 = .ok (.iload_n 1, 1) := by decide +kernel
theorem d_EM_copyLog_10 : decode b_EM_copyLog 10 = .ok (.iaload, 1) := by decide +kernel
theorem d_EM_copyLog_11 : decode b_EM_copyLog 11 = .ok (.iastore, 1) := by decide +kernel
theorem d_EM_copyLog_12 : decode b_EM_copyLog 12 = .ok (.iconst 0, 1) := by decide +kernel
theorem d_EM_copyLog_13 : decode b_EM_copyLog 13 = .ok (.istore_n 3, 1) := by decide +kernel
theorem d_EM_copyLog_14 : decode b_EM_copyLog 14 = .ok (.iload_n 3, 1) := by decide +kernel
theorem d_EM_copyLog_15 : decode b_EM_copyLog 15 = .ok (.aload_n 0, 1) := by decide +kernel
theorem d_EM_copyLog_16 : decode b_EM_copyLog 16 = .ok (.getfield 26, 3) := by decide +kernel
theorem d_EM_copyLog_19 : decode b_EM_copyLog 19 = .ok (.iload_n 1, 1) := by decide +kernel
theorem d_EM_copyLog_20 : decode b_EM_copyLog 20 = .ok (.iaload, 1) := by decide +kernel
theorem d_EM_copyLog_21 : decode b_EM_copyLog 21 = .ok (.if_icmp .ge 105, 3) := by decide +kernel
theorem d_EM_copyLog_24 : decode b_EM_copyLog 24 = .ok (.aload_n 0, 1) := by decide +kernel
theorem d_EM_copyLog_25 : decode b_EM_copyLog 25 = .ok (.getfield 29, 3) := by decide +kernel
theorem d_EM_copyLog_28 : decode b_EM_copyLog 28 = .ok (.bipush 100, 2) := by decide +kernel
theorem d_EM_copyLog_30 : decode b_EM_copyLog 30 = .ok (.iload_n 2, 1) := by decide +kernel
theorem d_EM_copyLog_31 : decode b_EM_copyLog 31 = .ok (.imul, 1) := by decide +kernel
theorem d_EM_copyLog_32 : decode b_EM_copyLog 32 = .ok (.iload_n 3, 1) := by decide +kernel
theorem d_EM_copyLog_33 : decode b_EM_copyLog 33 = .ok (.iadd, 1) := by decide +kernel
theorem d_EM_copyLog_34 : decode b_EM_copyLog 34 = .ok (.aload_n 0, 1) := by decide +kernel
theorem d_EM_copyLog_35 : decode b_EM_copyLog 35 = .ok (.getfield 29, 3) := by decide +kernel
theorem d_EM_copyLog_38 : decode b_EM_copyLog 38 = .ok (.bipush 100, 2) := by decide +kernel
theorem d_EM_copyLog_40 : decode b_EM_copyLog 40 = .ok (.iload_n 1, 1) := by decide +kernel
theorem d_EM_copyLog_41 : decode b_EM_copyLog 41 = .ok (.imul, 1) := by decide +kernel
theorem d_EM_copyLog_42 : decode b_EM_copyLog 42 = .ok (.iload_n 3, 1) := by decide +kernel
theorem d_EM_copyLog_43 : decode b_EM_copyLog 43 = .ok (.iadd, 1) := by decide +kernel
theorem d_EM_copyLog_44 : decode b_EM_copyLog 44 = .ok (.iaload, 1) := by decide +kernel
theorem d_EM_copyLog_45 : decode b_EM_copyLog 45 = .ok (.iastore, 1) := by decide +kernel
theorem d_EM_copyLog_46 : decode b_EM_copyLog 46 = .ok (.aload_n 0, 1) := by decide +kernel
theorem d_EM_copyLog_47 : decode b_EM_copyLog 47 = .ok (.getfield 32, 3) := by decide +kernel
theorem d_EM_copyLog_50 : decode b_EM_copyLog 50 = .ok (.bipush 100, 2) := by decide +kernel
theorem d_EM_copyLog_52 : decode b_EM_copyLog 52 = .ok (.iload_n 2, 1) := by decide +kernel
theorem d_EM_copyLog_53 : decode b_EM_copyLog 53 = .ok (.imul, 1) := by decide +kernel
theorem d_EM_copyLog_54 : decode b_EM_copyLog 54 = .ok (.iload_n 3, 1) := by decide +kernel
theorem d_EM_copyLog_55 : decode b_EM_copyLog 55 = .ok (.iadd, 1) := by decide +kernel
theorem d_EM_copyLog_56 : decode b_EM_copyLog 56 = .ok (.aload_n 0, 1) := by decide +kernel
theorem d_EM_copyLog_57 : decode b_EM_copyLog 57 = .ok (.getfield 32, 3) := by decide +kernel
theorem d_EM_copyLog_60 : decode b_EM_copyLog 60 = .ok (.bipush 100, 2) := by decide +kernel
theorem d_EM_copyLog_62 : decode b_EM_copyLog 62 = .ok (.iload_n 1, 1) := by decide +kernel
theorem d_EM_copyLog_63 : decode b_EM_copyLog 63 = .ok (.imul, 1) := by decide +kernel
theorem d_EM_copyLog_64 : decode b_EM_copyLog 64 = .ok (.iload_n 3, 1) := by decide +kernel
theorem d_EM_copyLog_65 : decode b_EM_copyLog 65 = .ok (.iadd, 1) := by decide +kernel
theorem d_EM_copyLog_66 : decode b_EM_copyLog 66 = .ok (.iaload, 1) := by decide +kernel
theorem d_EM_copyLog_67 : decode b_EM_copyLog 67 = .ok (.iastore, 1) := by decide +kernel
theorem d_EM_copyLog_68 : decode b_EM_copyLog 68 = .ok (.iconst 0, 1) := by decide +kernel
theorem d_EM_copyLog_69 : decode b_EM_copyLog 69 = .ok (.istore 4, 2) := by decide +kernel
theorem d_EM_copyLog_71 : decode b_EM_copyLog 71 = .ok (.iload 4, 2) := by decide +kernel
theorem d_EM_copyLog_73 : decode b_EM_copyLog 73 = .ok (.bipush 8, 2) := by decide +kernel
theorem d_EM_copyLog_75 : decode b_EM_copyLog 75 = .ok (.if_icmp .ge 45, 3) := by decide +kernel
theorem d_EM_copyLog_78 : decode b_EM_copyLog 78 = .ok (.aload_n 0, 1) := by decide +kernel
theorem d_EM_copyLog_79 : decode b_EM_copyLog 79 = .ok (.getfield 35, 3) := by decide +kernel
theorem d_EM_copyLog_82 : decode b_EM_copyLog 82 = .ok (.sipush 800, 3) := by decide +kernel
theorem d_EM_copyLog_85 : decode b_EM_copyLog 85 = .ok (.iload_n 2, 1) := by decide +kernel
theorem d_EM_copyLog_86 : decode b_EM_copyLog 86 = .ok (.imul, 1) := by decide +kernel
theorem d_EM_copyLog_87 : decode b_EM_copyLog 87 = .ok (.bipush 8, 2) := by decide +kernel
theorem d_EM_copyLog_89 : decode b_EM_copyLog 89 = .ok (.iload_n 3, 1) := by decide +kernel
theorem d_EM_copyLog_90 : decode b_EM_copyLog 90 = .ok (.imul, 1) := by decide +kernel
theorem d_EM_copyLog_91 : decode b_EM_copyLog 91 = .ok (.iadd, 1) := by decide +kernel
theorem d_EM_copyLog_92 : decode b_EM_copyLog 92 = .ok (.iload 4, 2) := by decide +kernel
theorem d_EM_copyLog_94 : decode b_EM_copyLog 94 = .ok (.iadd, 1) := by decide +kernel
theorem d_EM_copyLog_95 : decode b_EM_copyLog 95 = .ok (.aload_n 0, 1) := by decide +kernel
theorem d_EM_copyLog_96 : decode b_EM_copyLog 96 = .ok (.getfield 35, 3) := by decide +kernel
theorem d_EM_copyLog_99 : decode b_EM_copyLog 99 = .ok (.sipush 800, 3) := by decide +kernel
theorem d_EM_copyLog_102 : decode b_EM_copyLog 102 = .ok (.iload_n 1, 1) := by decide +kernel
theorem d_EM_copyLog_103 : decode b_EM_copyLog 103 = .ok (.imul, 1) := by decide +kernel
theorem d_EM_copyLog_104 : decode b_EM_copyLog 104 = .ok (.bipush 8, 2) := by decide +kernel
theorem d_EM_copyLog_106 : decode b_EM_copyLog 106 = .ok (.iload_n 3, 1) := by decide +kernel
theorem d_EM_copyLog_107 : decode b_EM_copyLog 107 = .ok (.imul, 1) := by decide +kernel
theorem d_EM_copyLog_108 : decode b_EM_copyLog 108 = .ok (.iadd, 1) := by decide +kernel
theorem d_EM_copyLog_109 : decode b_EM_copyLog 109 = .ok (.iload 4, 2) := by decide +kernel
theorem d_EM_copyLog_111 : decode b_EM_copyLog 111 = .ok (.iadd, 1) := by decide +kernel
theorem d_EM_copyLog_112 : decode b_EM_copyLog 112 = .ok (.iaload, 1) := by decide +kernel
theorem d_EM_copyLog_113 : decode b_EM_copyLog 113 = .ok (.iastore, 1) := by decide +kernel
theorem d_EM_copyLog_114 : decode b_EM_copyLog 114 = .ok (.iinc 4 1, 3) := by decide +kernel
theorem d_EM_copyLog_117 : decode b_EM_copyLog 117 = .ok (.goto (-46), 3) := by decide +kernel
theorem d_EM_copyLog_120 : decode b_EM_copyLog 120 = .ok (.iinc 3 1, 3) := by decide +kernel
theorem d_EM_copyLog_123 : decode b_EM_copyLog 123 = .ok (.goto (-109), 3) := by decide +kernel
theorem d_EM_copyLog_126 : decode b_EM_copyLog 126 = .ok (.iconst 0, 1) := by decide +kernel
theorem d_EM_copyLog_127 : decode b_EM_copyLog 127 = .ok (.istore_n 3, 1) := by decide +kernel
theorem d_EM_copyLog_128 : decode b_EM_copyLog 128 = .ok (.iload_n 3, 1) := by decide +kernel
theorem d_EM_copyLog_129 : decode b_EM_copyLog 129 = .ok (.bipush 10, 2) := by decide +kernel
theorem d_EM_copyLog_131 : decode b_EM_copyLog 131 = .ok (.if_icmp .ge 31, 3) := by decide +kernel
theorem d_EM_copyLog_134 : decode b_EM_copyLog 134 = .ok (.aload_n 0, 1) := by decide +kernel
theorem d_EM_copyLog_135 : decode b_EM_copyLog 135 = .ok (.getfield 38, 3) := by decide +kernel
theorem d_EM_copyLog_138 : decode b_EM_copyLog 138 = .ok (.bipush 10, 2) := by decide +kernel
theorem d_EM_copyLog_140 : decode b_EM_copyLog 140 = .ok (.iload_n 2, 1) := by decide +kernel
theorem d_EM_copyLog_141 : decode b_EM_copyLog 141 = .ok (.imul, 1) := by decide +kernel
theorem d_EM_copyLog_142 : decode b_EM_copyLog 142 = .ok (.iload_n 3, 1) := by decide +kernel
theorem d_EM_copyLog_143 : decode b_EM_copyLog 143 = .ok (.iadd, 1) := by decide +kernel
theorem d_EM_copyLog_144 : decode b_EM_copyLog 144 = .ok (.aload_n 0, 1) := by decide +kernel
theorem d_EM_copyLog_145 : decode b_EM_copyLog 145 = .ok (.getfield 38, 3) := by decide +kernel
theorem d_EM_copyLog_148 : decode b_EM_copyLog 148 = .ok (.bipush 10, 2) := by decide +kernel
theorem d_EM_copyLog_150 : decode b_EM_copyLog 150 = .ok (.iload_n 1, 1) := by decide +kernel
theorem d_EM_copyLog_151 : decode b_EM_copyLog 151 = .ok (.imul, 1) := by decide +kernel
theorem d_EM_copyLog_152 : decode b_EM_copyLog 152 = .ok (.iload_n 3, 1) := by decide +kernel
theorem d_EM_copyLog_153 : decode b_EM_copyLog 153 = .ok (.iadd, 1) := by decide +kernel
theorem d_EM_copyLog_154 : decode b_EM_copyLog 154 = .ok (.iaload, 1) := by decide +kernel
theorem d_EM_copyLog_155 : decode b_EM_copyLog 155 = .ok (.iastore, 1) := by decide +kernel
theorem d_EM_copyLog_156 : decode b_EM_copyLog 156 = .ok (.iinc 3 1, 3) := by decide +kernel
theorem d_EM_copyLog_159 : decode b_EM_copyLog 159 = .ok (.goto (-31), 3) := by decide +kernel
theorem d_EM_copyLog_162 : decode b_EM_copyLog 162 = .ok (.return_, 1) := by decide +kernel
theorem d_EM_recover_0 : decode b_EM_recover 0 = .ok (.aload_n 0, 1) := by decide +kernel
theorem d_EM_recover_1 : decode b_EM_recover 1 = .ok (.invokevirtual 242, 3) := by decide +kernel
theorem d_EM_recover_4 : decode b_EM_recover 4 = .ok (.istore_n 2, 1) := by decide +kernel
theorem d_EM_recover_5 : decode b_EM_recover 5 = .ok (.iload_n 1, 1) := by decide +kernel
theorem d_EM_recover_6 : decode b_EM_recover 6 = .ok (.ifCond .lt 41, 3) := by decide +kernel
theorem d_EM_recover_9 : decode b_EM_recover 9 = .ok (.iload_n 1, 1) := by decide +kernel
theorem d_EM_recover_10 : decode b_EM_recover 10 = .ok (.iconst 2, 1) := by decide +kernel
theorem d_EM_recover_11 : decode b_EM_recover 11 = .ok (.if_icmp .gt 36, 3) := by decide +kernel
theorem d_EM_recover_14 : decode b_EM_recover 14 = .ok (.aload_n 0, 1) := by decide +kernel
theorem d_EM_recover_15 : decode b_EM_recover 15 = .ok (.invokevirtual 238, 3) := by decide +kernel
theorem d_EM_recover_18 : decode b_EM_recover 18 = .ok (.iconst 2, 1) := by decide +kernel
theorem d_EM_recover_19 : decode b_EM_recover 19 = .ok (.if_icmp .lt 28, 3) := by decide +kernel
theorem d_EM_recover_22 : decode b_EM_recover 22 = .ok (.aload_n 0, 1) := by decide +kernel
theorem d_EM_recover_23 : decode b_EM_recover 23 = .ok (.getfield 20, 3) := by decide +kernel
theorem d_EM_recover_26 : decode b_EM_recover 26 = .ok (.iload_n 1, 1) := by decide +kernel
theorem d_EM_recover_27 : decode b_EM_recover 27 = .ok (.baload, 1) := by decide +kernel
theorem d_EM_recover_28 : decode b_EM_recover 28 = .ok (.ifCond .eq 19, 3) := by decide +kernel
theorem d_EM_recover_31 : decode b_EM_recover 31 = .ok (.aload_n 0, 1) := by decide +kernel
theorem d_EM_recover_32 : decode b_EM_recover 32 = .ok (.getfield 17, 3) := by decide +kernel
theorem d_EM_recover_35 : decode b_EM_recover 35 = .ok (.iload_n 1, 1) := by decide +kernel
theorem d_EM_recover_36 : decode b_EM_recover 36 = .ok (.iaload, 1) := by decide +kernel
theorem d_EM_recover_37 : decode b_EM_recover 37 = .ok (.iload_n 2, 1) := by decide +kernel
theorem d_EM_recover_38 : decode b_EM_recover 38 = .ok (.if_icmp .ne 9, 3) := by decide +kernel
theorem d_EM_recover_41 : decode b_EM_recover 41 = .ok (.iload_n 2, 1) := by decide +kernel
theorem d_EM_recover_42 : decode b_EM_recover 42 = .ok (.bipush 9, 2) := by decide +kernel
theorem d_EM_recover_44 : decode b_EM_recover 44 = .ok (.if_icmp .lt 5, 3) := by decide +kernel
theorem d_EM_recover_47 : decode b_EM_recover 47 = .ok (.iconst (-1), 1) := by decide +kernel
theorem d_EM_recover_48 : decode b_EM_recover 48 = .ok (.ireturn, 1) := by decide +kernel
theorem d_EM_recover_49 : decode b_EM_recover 49 = .ok (.iload_n 2, 1) := by decide +kernel
theorem d_EM_recover_50 : decode b_EM_recover 50 = .ok (.iconst 1, 1) := by decide +kernel
theorem d_EM_recover_51 : decode b_EM_recover 51 = .ok (.iadd, 1) := by decide +kernel
theorem d_EM_recover_52 : decode b_EM_recover 52 = .ok (.istore_n 3, 1) := by decide +kernel
theorem d_EM_recover_53 : decode b_EM_recover 53 = .ok (.aload_n 0, 1) := by decide +kernel
theorem d_EM_recover_54 : decode b_EM_recover 54 = .ok (.getfield 23, 3) := by decide +kernel
theorem d_EM_recover_57 : decode b_EM_recover 57 = .ok (.iload_n 1, 1) := by decide +kernel
theorem d_EM_recover_58 : decode b_EM_recover 58 = .ok (.iaload, 1) := by decide +kernel
theorem d_EM_recover_59 : decode b_EM_recover 59 = .ok (.istore 4, 2) := by decide +kernel
theorem d_EM_recover_61 : decode b_EM_recover 61 = .ok (.iconst 0, 1) := by decide +kernel
theorem d_EM_recover_62 : decode b_EM_recover 62 = .ok (.istore 5, 2) := by decide +kernel
theorem d_EM_recover_64 : decode b_EM_recover 64 = .ok (.iload 5, 2) := by decide +kernel
theorem d_EM_recover_66 : decode b_EM_recover 66 = .ok (.iconst 3, 1) := by decide +kernel
theorem d_EM_recover_67 : decode b_EM_recover 67 = .ok (.if_icmp .ge 37, 3) := by decide +kernel
theorem d_EM_recover_70 : decode b_EM_recover 70 = .ok (.aload_n 0, 1) := by decide +kernel
theorem d_EM_recover_71 : decode b_EM_recover 71 = .ok (.getfield 7, 3) := by decide +kernel
theorem d_EM_recover_74 : decode b_EM_recover 74 = .ok (.iload 5, 2) := by decide +kernel
theorem d_EM_recover_76 : decode b_EM_recover 76 = .ok (.aload_n 0, 1) := by decide +kernel
theorem d_EM_recover_77 : decode b_EM_recover 77 = .ok (.getfield 13, 3) := by decide +kernel
theorem d_EM_recover_80 : decode b_EM_recover 80 = .ok (.iload 5, 2) := by decide +kernel
theorem d_EM_recover_82 : decode b_EM_recover 82 = .ok (.baload, 1) := by decide +kernel
theorem d_EM_recover_83 : decode b_EM_recover 83 = .ok (.ifCond .eq 7, 3) := by decide +kernel
theorem d_EM_recover_86 : decode b_EM_recover 86 = .ok (.iload_n 3, 1) := by decide +kernel
theorem d_EM_recover_87 : decode b_EM_recover 87 = .ok (.goto 10, 3) := by decide +kernel
theorem d_EM_recover_90 : decode b_EM_recover 90 = .ok (.aload_n 0, 1) := by decide +kernel
theorem d_EM_recover_91 : decode b_EM_recover 91 = .ok (.getfield 7, 3) := by decide +kernel
theorem d_EM_recover_94 : decode b_EM_recover 94 = .ok (.iload 5, 2) := by decide +kernel
theorem d_EM_recover_96 : decode b_EM_recover 96 = .ok (.iaload, 1) := by decide +kernel
theorem d_EM_recover_97 : decode b_EM_recover 97 = .ok (.iastore, 1) := by decide +kernel
theorem d_EM_recover_98 : decode b_EM_recover 98 = .ok (.iinc 5 1, 3) := by decide +kernel
theorem d_EM_recover_101 : decode b_EM_recover 101 = .ok (.goto (-37), 3) := by decide +kernel
theorem d_EM_recover_104 : decode b_EM_recover 104 = .ok (.aload_n 0, 1) := by decide +kernel
theorem d_EM_recover_105 : decode b_EM_recover 105 = .ok (.getfield 62, 3) := by decide +kernel
theorem d_EM_recover_108 : decode b_EM_recover 108 = .ok (.iload_n 3, 1) := by decide +kernel
theorem d_EM_recover_109 : decode b_EM_recover 109 = .ok (.iconst 1, 1) := by decide +kernel
theorem d_EM_recover_110 : decode b_EM_recover 110 = .ok (.bastore, 1) := by decide +kernel
theorem d_EM_recover_111 : decode b_EM_recover 111 = .ok (.aload_n 0, 1) := by decide +kernel
theorem d_EM_recover_112 : decode b_EM_recover 112 = .ok (.getfield 65, 3) := by decide +kernel
theorem d_EM_recover_115 : decode b_EM_recover 115 = .ok (.iload_n 3, 1) := by decide +kernel
theorem d_EM_recover_116 : decode b_EM_recover 116 = .ok (.iconst 0, 1) := by decide +kernel
theorem d_EM_recover_117 : decode b_EM_recover 117 = .ok (.iastore, 1) := by decide +kernel
theorem d_EM_recover_118 : decode b_EM_recover 118 = .ok (.iconst 0, 1) := by decide +kernel
theorem d_EM_recover_119 : decode b_EM_recover 119 = .ok (.istore 5, 2) := by decide +kernel
theorem d_EM_recover_121 : decode b_EM_recover 121 = .ok (.iload 5, 2) := by decide +kernel
theorem d_EM_recover_123 : decode b_EM_recover 123 = .ok (.iconst 3, 1) := by decide +kernel
theorem d_EM_recover_124 : decode b_EM_recover 124 = .ok (.if_icmp .ge 79, 3) := by decide +kernel
theorem d_EM_recover_127 : decode b_EM_recover 127 = .ok (.aload_n 0, 1) := by decide +kernel
theorem d_EM_recover_128 : decode b_EM_recover 128 = .ok (.getfield 20, 3) := by decide +kernel
theorem d_EM_recover_131 : decode b_EM_recover 131 = .ok (.iload 5, 2) := by decide +kernel
theorem d_EM_recover_133 : decode b_EM_recover 133 = .ok (.baload, 1) := by decide +kernel
theorem d_EM_recover_134 : decode b_EM_recover 134 = .ok (.ifCond .eq 63, 3) := by decide +kernel
theorem d_EM_recover_137 : decode b_EM_recover 137 = .ok (.iload 5, 2) := by decide +kernel
theorem d_EM_recover_139 : decode b_EM_recover 139 = .ok (.iload_n 1, 1) := by decide +kernel
theorem d_EM_recover_140 : decode b_EM_recover 140 = .ok (.if_icmp .eq 10, 3) := by decide +kernel
theorem d_EM_recover_143 : decode b_EM_recover 143 = .ok (.aload_n 0, 1) := by decide +kernel
theorem d_EM_recover_144 : decode b_EM_recover 144 = .ok (.iload_n 1, 1) := by decide +kernel
theorem d_EM_recover_145 : decode b_EM_recover 145 = .ok (.iload 5, 2) := by decide +kernel
theorem d_EM_recover_147 : decode b_EM_recover 147 = .ok (.invokevirtual 270, 3) := by decide +kernel
theorem d_EM_recover_150 : decode b_EM_recover 150 = .ok (.aload_n 0, 1) := by decide +kernel
theorem d_EM_recover_151 : decode b_EM_recover 151 = .ok (.getfield 17, 3) := by decide +kernel
theorem d_EM_recover_154 : decode b_EM_recover 154 = .ok (.iload 5, 2) := by decide +kernel
theorem d_EM_recover_156 : decode b_EM_recover 156 = .ok (.iload_n 3, 1) := by decide +kernel
theorem d_EM_recover_157 : decode b_EM_recover 157 = .ok (.iastore, 1) := by decide +kernel
theorem d_EM_recover_158 : decode b_EM_recover 158 = .ok (.aload_n 0, 1) := by decide +kernel
theorem d_EM_recover_159 : decode b_EM_recover 159 = .ok (.getfield 38, 3) := by decide +kernel
theorem d_EM_recover_162 : decode b_EM_recover 162 = .ok (.bipush 10, 2) := by decide +kernel
theorem d_EM_recover_164 : decode b_EM_recover 164 = .ok (.iload 5, 2) := by decide +kernel
theorem d_EM_recover_166 : decode b_EM_recover 166 = .ok (.imul, 1) := by decide +kernel
theorem d_EM_recover_167 : decode b_EM_recover 167 = .ok (.iload_n 3, 1) := by decide +kernel
theorem d_EM_recover_168 : decode b_EM_recover 168 = .ok (.iadd, 1) := by decide +kernel
theorem d_EM_recover_169 : decode b_EM_recover 169 = .ok (.iload 4, 2) := by decide +kernel
theorem d_EM_recover_171 : decode b_EM_recover 171 = .ok (.iastore, 1) := by decide +kernel
theorem d_EM_recover_172 : decode b_EM_recover 172 = .ok (.aload_n 0, 1) := by decide +kernel
theorem d_EM_recover_173 : decode b_EM_recover 173 = .ok (.getfield 23, 3) := by decide +kernel
theorem d_EM_recover_176 : decode b_EM_recover 176 = .ok (.iload 5, 2) := by decide +kernel
theorem d_EM_recover_178 : decode b_EM_recover 178 = .ok (.iload 4, 2) := by decide +kernel
theorem d_EM_recover_180 : decode b_EM_recover 180 = .ok (.bipush 10, 2) := by decide +kernel
theorem d_EM_recover_182 : decode b_EM_recover 182 = .ok (.iadd, 1) := by decide +kernel
theorem d_EM_recover_183 : decode b_EM_recover 183 = .ok (.iastore, 1) := by decide +kernel
theorem d_EM_recover_184 : decode b_EM_recover 184 = .ok (.aload_n 0, 1) := by decide +kernel
theorem d_EM_recover_185 : decode b_EM_recover 185 = .ok (.getfield 65, 3) := by decide +kernel
theorem d_EM_recover_188 : decode b_EM_recover 188 = .ok (.iload_n 3, 1) := by decide +kernel
theorem d_EM_recover_189 : decode b_EM_recover 189 = .ok (.dup2, 1) := by decide +kernel
theorem d_EM_recover_190 : decode b_EM_recover 190 = .ok (.iaload, 1) := by decide +kernel
theorem d_EM_recover_191 : decode b_EM_recover 191 = .ok (.iconst 1, 1) := by decide +kernel
theorem d_EM_recover_192 : decode b_EM_recover 192 = .ok (.iload 5, 2) := by decide +kernel
theorem d_EM_recover_194 : decode b_EM_recover 194 = .ok (.ishl, 1) := by decide +kernel
theorem d_EM_recover_195 : decode b_EM_recover 195 = .ok (.iadd, 1) := by decide +kernel
theorem d_EM_recover_196 : decode b_EM_recover 196 = .ok (.iastore, 1) := by decide +kernel
theorem d_EM_recover_197 : decode b_EM_recover 197 = .ok (.iinc 5 1, 3) := by decide +kernel
theorem d_EM_recover_200 : decode b_EM_recover 200 = .ok (.goto (-79), 3) := by decide +kernel
theorem d_EM_recover_203 : decode b_EM_recover 203 = .ok (.aload_n 0, 1) := by decide +kernel
theorem d_EM_recover_204 : decode b_EM_recover 204 = .ok (.getfield 68, 3) := by decide +kernel
theorem d_EM_recover_207 : decode b_EM_recover 207 = .ok (.iload_n 3, 1) := by decide +kernel
theorem d_EM_recover_208 : decode b_EM_recover 208 = .ok (.iload 4, 2) := by decide +kernel
theorem d_EM_recover_210 : decode b_EM_recover 210 = .ok (.bipush 10, 2) := by decide +kernel
theorem d_EM_recover_212 : decode b_EM_recover 212 = .ok (.iadd, 1) := by decide +kernel
theorem d_EM_recover_213 : decode b_EM_recover 213 = .ok (.iastore, 1) := by decide +kernel
theorem d_EM_recover_214 : decode b_EM_recover 214 = .ok (.aload_n 0, 1) := by decide +kernel
theorem d_EM_recover_215 : decode b_EM_recover 215 = .ok (.getfield 71, 3) := by decide +kernel
theorem d_EM_recover_218 : decode b_EM_recover 218 = .ok (.iload_n 3, 1) := by decide +kernel
theorem d_EM_recover_219 : decode b_EM_recover 219 = .ok (.iload 4, 2) := by decide +kernel
theorem d_EM_recover_221 : decode b_EM_recover 221 = .ok (.bipush 10, 2) := by decide +kernel
theorem d_EM_recover_223 : decode b_EM_recover 223 = .ok (.iadd, 1) := by decide +kernel
theorem d_EM_recover_224 : decode b_EM_recover 224 = .ok (.iastore, 1) := by decide +kernel
theorem d_EM_recover_225 : decode b_EM_recover 225 = .ok (.aload_n 0, 1) := by decide +kernel
theorem d_EM_recover_226 : decode b_EM_recover 226 = .ok (.getfield 74, 3) := by decide +kernel
theorem d_EM_recover_229 : decode b_EM_recover 229 = .ok (.iload_n 3, 1) := by decide +kernel
theorem d_EM_recover_230 : decode b_EM_recover 230 = .ok (.iload 4, 2) := by decide +kernel
theorem d_EM_recover_232 : decode b_EM_recover 232 = .ok (.bipush 10, 2) := by decide +kernel
theorem d_EM_recover_234 : decode b_EM_recover 234 = .ok (.iadd, 1) := by decide +kernel
theorem d_EM_recover_235 : decode b_EM_recover 235 = .ok (.iastore, 1) := by decide +kernel
theorem d_EM_recover_236 : decode b_EM_recover 236 = .ok (.aload_n 0, 1) := by decide +kernel
theorem d_EM_recover_237 : decode b_EM_recover 237 = .ok (.getfield 77, 3) := by decide +kernel
theorem d_EM_recover_240 : decode b_EM_recover 240 = .ok (.iload_n 3, 1) := by decide +kernel
theorem d_EM_recover_241 : decode b_EM_recover 241 = .ok (.iload 4, 2) := by decide +kernel
theorem d_EM_recover_243 : decode b_EM_recover 243 = .ok (.bipush 10, 2) := by decide +kernel
theorem d_EM_recover_245 : decode b_EM_recover 245 = .ok (.iadd, 1) := by decide +kernel
theorem d_EM_recover_246 : decode b_EM_recover 246 = .ok (.iastore, 1) := by decide +kernel
theorem d_EM_recover_247 : decode b_EM_recover 247 = .ok (.iconst 0, 1) := by decide +kernel
theorem d_EM_recover_248 : decode b_EM_recover 248 = .ok (.istore 5, 2) := by decide +kernel
theorem d_EM_recover_250 : decode b_EM_recover 250 = .ok (.iload 5, 2) := by decide +kernel
theorem d_EM_recover_252 : decode b_EM_recover 252 = .ok (.bipush 8, 2) := by decide +kernel
theorem d_EM_recover_254 : decode b_EM_recover 254 = .ok (.if_icmp .ge 26, 3) := by decide +kernel
theorem d_EM_recover_257 : decode b_EM_recover 257 = .ok (.aload_n 0, 1) := by decide +kernel
theorem d_EM_recover_258 : decode b_EM_recover 258 = .ok (.getfield 80, 3) := by decide +kernel
theorem d_EM_recover_261 : decode b_EM_recover 261 = .ok (.bipush 8, 2) := by decide +kernel
theorem d_EM_recover_263 : decode b_EM_recover 263 = .ok (.iload_n 3, 1) := by decide +kernel
theorem d_EM_recover_264 : decode b_EM_recover 264 = .ok (.imul, 1) := by decide +kernel
theorem d_EM_recover_265 : decode b_EM_recover 265 = .ok (.iload 5, 2) := by decide +kernel
theorem d_EM_recover_267 : decode b_EM_recover 267 = .ok (.iadd, 1) := by decide +kernel
theorem d_EM_recover_268 : decode b_EM_recover 268 = .ok (.iload 4, 2) := by decide +kernel
theorem d_EM_recover_270 : decode b_EM_recover 270 = .ok (.bipush 10, 2) := by decide +kernel
theorem d_EM_recover_272 : decode b_EM_recover 272 = .ok (.iadd, 1) := by decide +kernel
theorem d_EM_recover_273 : decode b_EM_recover 273 = .ok (.iastore, 1) := by decide +kernel
theorem d_EM_recover_274 : decode b_EM_recover 274 = .ok (.iinc 5 1, 3) := by decide +kernel
theorem d_EM_recover_277 : decode b_EM_recover 277 = .ok (.goto (-27), 3) := by decide +kernel
theorem d_EM_recover_280 : decode b_EM_recover 280 = .ok (.iload_n 3, 1) := by decide +kernel
theorem d_EM_recover_281 : decode b_EM_recover 281 = .ok (.ireturn, 1) := by decide +kernel
