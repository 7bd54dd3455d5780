theorem d_EM_wrote_0 : decode b_EM_wrote 0 = .ok (.aload_n 0, 1) := by decide +kernel
theorem d_EM_wrote_1 : decode b_EM_wrote 1 = .ok (.getfield 143, 3) := by decide +kernel
theorem d_EM_wrote_4 : decode b_EM_wrote 4 = .ok (.iload_n 1, 1) := by decide +kernel
theorem d_EM_wrote_5 : decode b_EM_wrote 5 = .ok (.iaload, 1) := by decide +kernel
theorem d_EM_wrote_6 : decode b_EM_wrote 6 = .ok (.iload_n 2, 1) := by decide +kernel
theorem d_EM_wrote_7 : decode b_EM_wrote 7 = .ok (.ishr, 1) := by decide +kernel
theorem d_EM_wrote_8 : decode b_EM_wrote 8 = .ok (.iconst 1, 1) := by decide +kernel
theorem d_EM_wrote_9 : decode b_EM_wrote 9 = .ok (.iand, 1) := by decide +kernel
theorem d_EM_wrote_10 : decode b_EM_wrote 10 = .ok (.iconst 1, 1) := by decide +kernel
theorem d_EM_wrote_11 : decode b_EM_wrote 11 = .ok (.if_icmp .ne 7, 3) := by decide +kernel
theorem d_EM_wrote_14 : decode b_EM_wrote 14 = .ok (.iconst 1, 1) := by decide +kernel
theorem d_EM_wrote_15 : decode b_EM_wrote 15 = .ok (.goto 4, 3) := by decide +kernel
theorem d_EM_wrote_18 : decode b_EM_wrote 18 = .ok (.iconst 0, 1) := by decide +kernel
theorem d_EM_wrote_19 : decode b_EM_wrote 19 = .ok (.ireturn, 1) := by decide +kernel
theorem d_EM_read_0 : decode b_EM_read 0 = .ok (.aload_n 0, 1) := by decide +kernel
theorem d_EM_read_1 : decode b_EM_read 1 = .ok (.iload_n 1, 1) := by decide +kernel
theorem d_EM_read_2 : decode b_EM_read 2 = .ok (.invokevirtual 251, 3) := by decide +kernel
theorem d_EM_read_5 : decode b_EM_read 5 = .ok (.ifCond .eq 13, 3) := by decide +kernel
theorem d_EM_read_8 : decode b_EM_read 8 = .ok (.iload_n 2, 1) := by decide +kernel
theorem d_EM_read_9 : decode b_EM_read 9 = .ok (.ifCond .lt 9, 3) := by decide +kernel
theorem d_EM_read_12 : decode b_EM_read 12 = .ok (.iload_n 2, 1) := by decide +kernel
theorem d_EM_read_13 : decode b_EM_read 13 = .ok (.bipush 7, 2) := by decide +kernel
theorem d_EM_read_15 : decode b_EM_read 15 = .ok (.if_icmp .le 7, 3) := by decide +kernel
theorem d_EM_read_18 : decode b_EM_read 18 = .ok (.ldc2_w 254, 3) := by decide +kernel
theorem d_EM_read_21 : decode b_EM_read 21 = .ok (.lreturn, 1) := by decide +kernel
theorem d_EM_read_22 : decode b_EM_read 22 = .ok (.aload_n 0, 1) := by decide +kernel
theorem d_EM_read_23 : decode b_EM_read 23 = .ok (.iload_n 1, 1) := by decide +kernel
theorem d_EM_read_24 : decode b_EM_read 24 = .ok (.iload_n 2, 1) := by decide +kernel
theorem d_EM_read_25 : decode b_EM_read 25 = .ok (.invokevirtual 256, 3) := by decide +kernel
theorem d_EM_read_28 : decode b_EM_read 28 = .ok (.ifCond .eq 16, 3) := by decide +kernel
theorem d_EM_read_31 : decode b_EM_read 31 = .ok (.aload_n 0, 1) := by decide +kernel
theorem d_EM_read_32 : decode b_EM_read 32 = .ok (.getfield 146, 3) := by decide +kernel
theorem d_EM_read_35 : decode b_EM_read 35 = .ok (.bipush 8, 2) := by decide +kernel
theorem d_EM_read_37 : decode b_EM_read 37 = .ok (.iload_n 1, 1) := by decide +kernel
theorem d_EM_read_38 : decode b_EM_read 38 = .ok (.imul, 1) := by decide +kernel
theorem d_EM_read_39 : decode b_EM_read 39 = .ok (.iload_n 2, 1) := by decide +kernel
theorem d_EM_read_40 : decode b_EM_read 40 = .ok (.iadd, 1) := by decide +kernel
theorem d_EM_read_41 : decode b_EM_read 41 = .ok (.iaload, 1) := by decide +kernel
theorem d_EM_read_42 : decode b_EM_read 42 = .ok (.i2l, 1) := by decide +kernel
theorem d_EM_read_43 : decode b_EM_read 43 = .ok (.lreturn, 1) := by decide +kernel
theorem d_EM_read_44 : decode b_EM_read 44 = .ok (.aload_n 0, 1) := by decide +kernel
theorem d_EM_read_45 : decode b_EM_read 45 = .ok (.iload_n 2, 1) := by decide +kernel
theorem d_EM_read_46 : decode b_EM_read 46 = .ok (.iload_n 1, 1) := by decide +kernel
theorem d_EM_read_47 : decode b_EM_read 47 = .ok (.invokevirtual 260, 3) := by decide +kernel
theorem d_EM_read_50 : decode b_EM_read 50 = .ok (.lstore_n 3, 1) := by decide +kernel
theorem d_EM_read_51 : decode b_EM_read 51 = .ok (.aload_n 0, 1) := by decide +kernel
theorem d_EM_read_52 : decode b_EM_read 52 = .ok (.getfield 140, 3) := by decide +kernel
theorem d_EM_read_55 : decode b_EM_read 55 = .ok (.iload_n 1, 1) := by decide +kernel
theorem d_EM_read_56 : decode b_EM_read 56 = .ok (.lload_n 3, 1) := by decide +kernel
theorem d_EM_read_57 : decode b_EM_read 57 = .ok (.ldc2_w 245, 3) := by decide +kernel
theorem d_EM_read_60 : decode b_EM_read 60 = .ok (.lcmp, 1) := by decide +kernel
theorem d_EM_read_61 : decode b_EM_read 61 = .ok (.ifCond .ge 16, 3) := by decide +kernel
theorem d_EM_read_64 : decode b_EM_read 64 = .ok (.aload_n 0, 1) := by decide +kernel
theorem d_EM_read_65 : decode b_EM_read 65 = .ok (.getfield 140, 3) := by decide +kernel
theorem d_EM_read_68 : decode b_EM_read 68 = .ok (.iload_n 1, 1) := by decide +kernel
theorem d_EM_read_69 : decode b_EM_read 69 = .ok (.iaload, 1) := by decide +kernel
theorem d_EM_read_70 : decode b_EM_read 70 = .ok (.iconst 1, 1) := by decide +kernel
theorem d_EM_read_71 : decode b_EM_read 71 = .ok (.iload_n 2, 1) := by decide +kernel
theorem d_EM_read_72 : decode b_EM_read 72 = .ok (.ishl, 1) := by decide +kernel
theorem d_EM_read_73 : decode b_EM_read 73 = .ok (.ior, 1) := by decide +kernel
theorem d_EM_read_74 : decode b_EM_read 74 = .ok (.goto 9, 3) := by decide +kernel
theorem d_EM_read_77 : decode b_EM_read 77 = .ok (.aload_n 0, 1) := by decide +kernel
theorem d_EM_read_78 : decode b_EM_read 78 = .ok (.getfield 140, 3) := by decide +kernel
theorem d_EM_read_81 : decode b_EM_read 81 = .ok (.iload_n 1, 1) := by decide +kernel
theorem d_EM_read_82 : decode b_EM_read 82 = .ok (.iaload, 1) := by decide +kernel
theorem d_EM_read_83 : decode b_EM_read 83 = .ok (.iastore, 1) := by decide +kernel
theorem d_EM_read_84 : decode b_EM_read 84 = .ok (.lload_n 3, 1) := by decide +kernel
theorem d_EM_read_85 : decode b_EM_read 85 = .ok (.lreturn, 1) := by decide +kernel
theorem d_EM_range_0 : decode b_EM_range 0 = .ok (.aload_n 0, 1) := by decide +kernel
theorem d_EM_range_1 : decode b_EM_range 1 = .ok (.iload_n 1, 1) := by decide +kernel
theorem d_EM_range_2 : decode b_EM_range 2 = .ok (.invokevirtual 251, 3) := by decide +kernel
theorem d_EM_range_5 : decode b_EM_range 5 = .ok (.ifCond .eq 18, 3) := by decide +kernel
theorem d_EM_range_8 : decode b_EM_range 8 = .ok (.iload_n 2, 1) := by decide +kernel
theorem d_EM_range_9 : decode b_EM_range 9 = .ok (.ifCond .lt 14, 3) := by decide +kernel
theorem d_EM_range_12 : decode b_EM_range 12 = .ok (.iload_n 3, 1) := by decide +kernel
theorem d_EM_range_13 : decode b_EM_range 13 = .ok (.bipush 7, 2) := by decide +kernel
theorem d_EM_range_15 : decode b_EM_range 15 = .ok (.if_icmp .gt 8, 3) := by decide +kernel
theorem d_EM_range_18 : decode b_EM_range 18 = .ok (.iload_n 2, 1) := by decide +kernel
theorem d_EM_range_19 : decode b_EM_range 19 = .ok (.iload_n 3, 1) := by decide +kernel
theorem d_EM_range_20 : decode b_EM_range 20 = .ok (.if_icmp .le 7, 3) := by decide +kernel
theorem d_EM_range_23 : decode b_EM_range 23 = .ok (.ldc2_w 254, 3) := by decide +kernel
theorem d_EM_range_26 : decode b_EM_range 26 = .ok (.lreturn, 1) := by decide +kernel
theorem d_EM_range_27 : decode b_EM_range 27 = .ok (.lconst 0, 1) := by decide +kernel
theorem d_EM_range_28 : decode b_EM_range 28 = .ok (.lstore 4, 2) := by decide +kernel
theorem d_EM_range_30 : decode b_EM_range 30 = .ok (.iconst 0, 1) := by decide +kernel
theorem d_EM_range_31 : decode b_EM_range 31 = .ok (.istore 6, 2) := by decide +kernel
theorem d_EM_range_33 : decode b_EM_range 33 = .ok (.iload_n 2, 1) := by decide +kernel
theorem d_EM_range_34 : decode b_EM_range 34 = .ok (.istore 7, 2) := by decide +kernel
theorem d_EM_range_36 : decode b_EM_range 36 = .ok (.iload 7, 2) := by decide +kernel
theorem d_EM_range_38 : decode b_EM_range 38 = .ok (.iload_n 3, 1) := by decide +kernel
theorem d_EM_range_39 : decode b_EM_range 39 = .ok (.if_icmp .gt 98, 3) := by decide +kernel
theorem d_EM_range_42 : decode b_EM_range 42 = .ok (.aload_n 0, 1) := by decide +kernel
theorem d_EM_range_43 : decode b_EM_range 43 = .ok (.iload_n 1, 1) := by decide +kernel
theorem d_EM_range_44 : decode b_EM_range 44 = .ok (.iload 7, 2) := by decide +kernel
theorem d_EM_range_46 : decode b_EM_range 46 = .ok (.invokevirtual 256, 3) := by decide +kernel
theorem d_EM_range_49 : decode b_EM_range 49 = .ok (.ifCond .eq 19, 3) := by decide +kernel
theorem d_EM_range_52 : decode b_EM_range 52 = .ok (.aload_n 0, 1) := by decide +kernel
theorem d_EM_range_53 : decode b_EM_range 53 = .ok (.getfield 146, 3) := by decide +kernel
theorem d_EM_range_56 : decode b_EM_range 56 = .ok (.bipush 8, 2) := by decide +kernel
theorem d_EM_range_58 : decode b_EM_range 58 = .ok (.iload_n 1, 1) := by decide +kernel
theorem d_EM_range_59 : decode b_EM_range 59 = .ok (.imul, 1) := by decide +kernel
theorem d_EM_range_60 : decode b_EM_range 60 = .ok (.iload 7, 2) := by decide +kernel
theorem d_EM_range_62 : decode b_EM_range 62 = .ok (.iadd, 1) := by decide +kernel
theorem d_EM_range_63 : decode b_EM_range 63 = .ok (.iaload, 1) := by decide +kernel
theorem d_EM_range_64 : decode b_EM_range 64 = .ok (.i2l, 1) := by decide +kernel
theorem d_EM_range_65 : decode b_EM_range 65 = .ok (.goto 10, 3) := by decide +kernel
theorem d_EM_range_68 : decode b_EM_range 68 = .ok (.aload_n 0, 1) := by decide +kernel
theorem d_EM_range_69 : decode b_EM_range 69 = .ok (.iload 7, 2) := by decide +kernel
theorem d_EM_range_71 : decode b_EM_range 71 = .ok (.iload_n 1, 1) := by decide +kernel
theorem d_EM_range_72 : decode b_EM_range 72 = .ok (.invokevirtual 260, 3) := by decide +kernel
theorem d_EM_range_75 : decode b_EM_range 75 = .ok (.lstore 8, 2) := by decide +kernel
theorem d_EM_range_77 : decode b_EM_range 77 = .ok (.lload 8, 2) := by decide +kernel
theorem d_EM_range_79 : decode b_EM_range 79 = .ok (.ldc2_w 245, 3) := by decide +kernel
theorem d_EM_range_82 : decode b_EM_range 82 = .ok (.lcmp, 1) := by decide +kernel
theorem d_EM_range_83 : decode b_EM_range 83 = .ok (.ifCond .lt 6, 3) := by decide +kernel
theorem d_EM_range_86 : decode b_EM_range 86 = .ok (.lload 8, 2) := by decide +kernel
theorem d_EM_range_88 : decode b_EM_range 88 = .ok (.lreturn, 1) := by decide +kernel
theorem d_EM_range_89 : decode b_EM_range 89 = .ok (.lload 8, 2) := by decide +kernel
theorem d_EM_range_91 : decode b_EM_range 91 = .ok (.lconst 0, 1) := by decide +kernel
theorem d_EM_range_92 : decode b_EM_range 92 = .ok (.lcmp, 1) := by decide +kernel
theorem d_EM_range_93 : decode b_EM_range 93 = .ok (.ifCond .eq 10, 3) := by decide +kernel
theorem d_EM_range_96 : decode b_EM_range 96 = .ok (.lload 4, 2) := by decide +kernel
theorem d_EM_range_98 : decode b_EM_range 98 = .ok (.lconst 1, 1) := by decide +kernel
theorem d_EM_range_99 : decode b_EM_range 99 = .ok (.ladd, 1) := by decide +kernel
theorem d_EM_range_100 : decode b_EM_range 100 = .ok (.goto 5, 3) := by decide +kernel
theorem d_EM_range_103 : decode b_EM_range 103 = .ok (.lload 4, 2) := by decide +kernel
theorem d_EM_range_105 : decode b_EM_range 105 = .ok (.lstore 4, 2) := by decide +kernel
theorem d_EM_range_107 : decode b_EM_range 107 = .ok (.aload_n 0, 1) := by decide +kernel
theorem d_EM_range_108 : decode b_EM_range 108 = .ok (.iload_n 1, 1) := by decide +kernel
theorem d_EM_range_109 : decode b_EM_range 109 = .ok (.iload 7, 2) := by decide +kernel
theorem d_EM_range_111 : decode b_EM_range 111 = .ok (.invokevirtual 256, 3) := by decide +kernel
theorem d_EM_range_114 : decode b_EM_range 114 = .ok (.ifCond .eq 8, 3) := by decide +kernel
theorem d_EM_range_117 : decode b_EM_range 117 = .ok (.iload 6, 2) := by decide +kernel
theorem d_EM_range_119 : decode b_EM_range 119 = .ok (.goto 10, 3) := by decide +kernel
theorem d_EM_range_122 : decode b_EM_range 122 = .ok (.iload 6, 2) := by decide +kernel
theorem d_EM_range_124 : decode b_EM_range 124 = .ok (.iconst 1, 1) := by decide +kernel
theorem d_EM_range_125 : decode b_EM_range 125 = .ok (.iload 7, 2) := by decide +kernel
theorem d_EM_range_127 : decode b_EM_range 127 = .ok (.ishl, 1) := by decide +kernel
theorem d_EM_range_128 : decode b_EM_range 128 = .ok (.ior, 1) := by decide +kernel
theorem d_EM_range_129 : decode b_EM_range 129 = .ok (.istore 6, 2) := by decide +kernel
theorem d_EM_range_131 : decode b_EM_range 131 = .ok (.iinc 7 1, 3) := by decide +kernel
theorem d_EM_range_134 : decode b_EM_range 134 = .ok (.goto (-98), 3) := by decide +kernel
theorem d_EM_range_137 : decode b_EM_range 137 = .ok (.aload_n 0, 1) := by decide +kernel
theorem d_EM_range_138 : decode b_EM_range 138 = .ok (.getfield 140, 3) := by decide +kernel
theorem d_EM_range_141 : decode b_EM_range 141 = .ok (.iload_n 1, 1) := by decide +kernel
theorem d_EM_range_142 : decode b_EM_range 142 = .ok (.aload_n 0, 1) := by decide +kernel
theorem d_EM_range_143 : decode b_EM_range 143 = .ok (.getfield 140, 3) := by decide +kernel
theorem d_EM_range_146 : decode b_EM_range 146 = .ok (.iload_n 1, 1) := by decide +kernel
theorem d_EM_range_147 : decode b_EM_range 147 = .ok (.iaload, 1) := by decide +kernel
theorem d_EM_range_148 : decode b_EM_range 148 = .ok (.iload 6, 2) := by decide +kernel
theorem d_EM_range_150 : decode b_EM_range 150 = .ok (.ior, 1) := by decide +kernel
theorem d_EM_range_151 : decode b_EM_range 151 = .ok (.iastore, 1) := by decide +kernel
theorem d_EM_range_152 : decode b_EM_range 152 = .ok (.lload 4, 2) := by decide +kernel
theorem d_EM_range_154 : decode b_EM_range 154 = .ok (.lreturn, 1) := by decide +kernel
theorem d_EM_write_0 : decode b_EM_write 0 = .ok (.aload_n 0, 1) := by decide +kernel
theorem d_EM_write_1 : decode b_EM_write 1 = .ok (.iload_n 1, 1) := by decide +kernel
theorem d_EM_write_2 : decode b_EM_write 2 = .ok (.invokevirtual 251, 3) := by decide +kernel
theorem d_EM_write_5 : decode b_EM_write 5 = .ok (.ifCond .eq 13, 3) := by decide +kernel
theorem d_EM_write_8 : decode b_EM_write 8 = .ok (.iload_n 2, 1) := by decide +kernel
theorem d_EM_write_9 : decode b_EM_write 9 = .ok (.ifCond .lt 9, 3) := by decide +kernel
theorem d_EM_write_12 : decode b_EM_write 12 = .ok (.iload_n 2, 1) := by decide +kernel
theorem d_EM_write_13 : decode b_EM_write 13 = .ok (.bipush 7, 2) := by decide +kernel
theorem d_EM_write_15 : decode b_EM_write 15 = .ok (.if_icmp .le 5, 3) := by decide +kernel
theorem d_EM_write_18 : decode b_EM_write 18 = .ok (.iconst 0, 1) := by decide +kernel
theorem d_EM_write_19 : decode b_EM_write 19 = .ok (.ireturn, 1) := by decide +kernel
theorem d_EM_write_20 : decode b_EM_write 20 = .ok (.aload_n 0, 1) := by decide +kernel
theorem d_EM_write_21 : decode b_EM_write 21 = .ok (.getfield 143, 3) := by decide +kernel
theorem d_EM_write_24 : decode b_EM_write 24 = .ok (.iload_n 1, 1) := by decide +kernel
theorem d_EM_write_25 : decode b_EM_write 25 = .ok (.aload_n 0, 1) := by decide +kernel
theorem d_EM_write_26 : decode b_EM_write 26 = .ok (.getfield 143, 3) := by decide +kernel
theorem d_EM_write_29 : decode b_EM_write 29 = .ok (.iload_n 1, 1) := by decide +kernel
theorem d_EM_write_30 : decode b_EM_write 30 = .ok (.iaload, 1) := by decide +kernel
theorem d_EM_write_31 : decode b_EM_write 31 = .ok (.iconst 1, 1) := by decide +kernel
theorem d_EM_write_32 : decode b_EM_write 32 = .ok (.iload_n 2, 1) := by decide +kernel
theorem d_EM_write_33 : decode b_EM_write 33 = .ok (.ishl, 1) := by decide +kernel
theorem d_EM_write_34 : decode b_EM_write 34 = .ok (.ior, 1) := by decide +kernel
theorem d_EM_write_35 : decode b_EM_write 35 = .ok (.iastore, 1) := by decide +kernel
theorem d_EM_write_36 : decode b_EM_write 36 = .ok (.aload_n 0, 1) := by decide +kernel
theorem d_EM_write_37 : decode b_EM_write 37 = .ok (.getfield 146, 3) := by decide +kernel
theorem d_EM_write_40 : decode b_EM_write 40 = .ok (.bipush 8, 2) := by decide +kernel
theorem d_EM_write_42 : decode b_EM_write 42 = .ok (.iload_n 1, 1) := by decide +kernel
theorem d_EM_write_43 : decode b_EM_write 43 = .ok (.imul, 1) := by decide +kernel
theorem d_EM_write_44 : decode b_EM_write 44 = .ok (.iload_n 2, 1) := by decide +kernel
theorem d_EM_write_45 : decode b_EM_write 45 = .ok (.iadd, 1) := by decide +kernel
theorem d_EM_write_46 : decode b_EM_write 46 = .ok (.iload_n 3, 1) := by decide +kernel
theorem d_EM_write_47 : decode b_EM_write 47 = .ok (.iastore, 1) := by decide +kernel
theorem d_EM_write_48 : decode b_EM_write 48 = .ok (.iconst 1, 1) := by decide +kernel
theorem d_EM_write_49 : decode b_EM_write 49 = .ok (.ireturn, 1) := by decide +kernel
theorem d_EM_commit_0 : decode b_EM_commit 0 = .ok (.aload_n 0, 1) := by decide +kernel
theorem d_EM_commit_1 : decode b_EM_commit 1 = .ok (.iload_n 1, 1) := by decide +kernel
theorem d_EM_commit_2 : decode b_EM_commit 2 = .ok (.invokevirtual 251, 3) := by decide +kernel
theorem d_EM_commit_5 : decode b_EM_commit 5 = .ok (.ifCond .ne 5, 3) := by decide +kernel
theorem d_EM_commit_8 : decode b_EM_commit 8 = .ok (.iconst 0, 1) := by decide +kernel
theorem d_EM_commit_9 : decode b_EM_commit 9 = .ok (.ireturn, 1) := by decide +kernel
theorem d_EM_commit_10 : decode b_EM_commit 10 = .ok (.aload_n 0, 1) := by decide +kernel
theorem d_EM_commit_11 : decode b_EM_commit 11 = .ok (.getfield 143, 3) := by decide +kernel
theorem d_EM_commit_14 : decode b_EM_commit 14 = .ok (.iload_n 1, 1) := by decide +kernel
theorem d_EM_commit_15 : decode b_EM_commit 15 = .ok (.iaload, 1) := by decide +kernel
theorem d_EM_commit_16 : decode b_EM_commit 16 = .ok (.ifCond .ne 12, 3) := by decide +kernel
theorem d_EM_commit_19 : decode b_EM_commit 19 = .ok (.aload_n 0, 1) := by decide +kernel
theorem d_EM_commit_20 : decode b_EM_commit 20 = .ok (.getfield 131, 3) := by decide +kernel
theorem d_EM_commit_23 : decode b_EM_commit 23 = .ok (.iload_n 1, 1) := by decide +kernel
theorem d_EM_commit_24 : decode b_EM_commit 24 = .ok (.iconst 4, 1) := by decide +kernel
theorem d_EM_commit_25 : decode b_EM_commit 25 = .ok (.iastore, 1) := by decide +kernel
theorem d_EM_commit_26 : decode b_EM_commit 26 = .ok (.iconst 1, 1) := by decide +kernel
theorem d_EM_commit_27 : decode b_EM_commit 27 = .ok (.ireturn, 1) := by decide +kernel
theorem d_EM_commit_28 : decode b_EM_commit 28 = .ok (.aload_n 0, 1) := by decide +kernel
theorem d_EM_commit_29 : decode b_EM_commit 29 = .ok (.getfield 131, 3) := by decide +kernel
theorem d_EM_commit_32 : decode b_EM_commit 32 = .ok (.iload_n 1, 1) := by decide +kernel
theorem d_EM_commit_33 : decode b_EM_commit 33 = .ok (.iconst 3, 1) := by decide +kernel
theorem d_EM_commit_34 : decode b_EM_commit 34 = .ok (.iastore, 1) := by decide +kernel
theorem d_EM_commit_35 : decode b_EM_commit 35 = .ok (.aload_n 0, 1) := by decide +kernel
theorem d_EM_commit_36 : decode b_EM_commit 36 = .ok (.iconst 5, 1) := by decide +kernel
theorem d_EM_commit_37 : decode b_EM_commit 37 = .ok (.iload_n 1, 1) := by decide +kernel
theorem d_EM_commit_38 : decode b_EM_commit 38 = .ok (.aload_n 0, 1) := by decide +kernel
theorem d_EM_commit_39 : decode b_EM_commit 39 = .ok (.getfield 125, 3) := by decide +kernel
theorem d_EM_commit_42 : decode b_EM_commit 42 = .ok (.iload_n 1, 1) := by decide +kernel
theorem d_EM_commit_43 : decode b_EM_commit 43 = .ok (.iaload, 1) := by decide +kernel
theorem d_EM_commit_44 : decode b_EM_commit 44 = .ok (.aload_n 0, 1) := by decide +kernel
theorem d_EM_commit_45 : decode b_EM_commit 45 = .ok (.getfield 134, 3) := by decide +kernel
theorem d_EM_commit_48 : decode b_EM_commit 48 = .ok (.iload_n 1, 1) := by decide +kernel
theorem d_EM_commit_49 : decode b_EM_commit 49 = .ok (.iaload, 1) := by decide +kernel
theorem d_EM_commit_50 : decode b_EM_commit 50 = .ok (.aload_n 0, 1) := by decide +kernel
theorem d_EM_commit_51 : decode b_EM_commit 51 = .ok (.getfield 128, 3) := by decide +kernel
theorem d_EM_commit_54 : decode b_EM_commit 54 = .ok (.iload_n 1, 1) := by decide +kernel
theorem d_EM_commit_55 : decode b_EM_commit 55 = .ok (.iaload, 1) := by decide +kernel
theorem d_EM_commit_56 : decode b_EM_commit 56 = .ok (.invokevirtual 193, 3) := by decide +kernel
theorem d_EM_commit_59 : decode b_EM_commit 59 = .ok (.istore_n 2, 1) := by decide +kernel
theorem d_EM_commit_60 : decode b_EM_commit 60 = .ok (.aload_n 0, 1) := by decide +kernel
theorem d_EM_commit_61 : decode b_EM_commit 61 = .ok (.getfield 167, 3) := by decide +kernel
theorem d_EM_commit_64 : decode b_EM_commit 64 = .ok (.iload_n 2, 1) := by decide +kernel
theorem d_EM_commit_65 : decode b_EM_commit 65 = .ok (.aload_n 0, 1) := by decide +kernel
theorem d_EM_commit_66 : decode b_EM_commit 66 = .ok (.getfield 140, 3) := by decide +kernel
theorem d_EM_commit_69 : decode b_EM_commit 69 = .ok (.iload_n 1, 1) := by decide +kernel
theorem d_EM_commit_70 : decode b_EM_commit 70 = .ok (.iaload, 1) := by decide +kernel
theorem d_EM_commit_71 : decode b_EM_commit 71 = .ok (.iastore, 1) := by decide +kernel
theorem d_EM_commit_72 : decode b_EM_commit 72 = .ok (.aload_n 0, 1) := by decide +kernel
theorem d_EM_commit_73 : decode b_EM_commit 73 = .ok (.getfield 170, 3) := by decide +kernel
theorem d_EM_commit_76 : decode b_EM_commit 76 = .ok (.iload_n 2, 1) := by decide +kernel
theorem d_EM_commit_77 : decode b_EM_commit 77 = .ok (.aload_n 0, 1) := by decide +kernel
theorem d_EM_commit_78 : decode b_EM_commit 78 = .ok (.getfield 143, 3) := by decide +kernel
theorem d_EM_commit_81 : decode b_EM_commit 81 = .ok (.iload_n 1, 1) := by decide +kernel
theorem d_EM_commit_82 : decode b_EM_commit 82 = .ok (.iaload, 1) := by decide +kernel
theorem d_EM_commit_83 : decode b_EM_commit 83 = .ok (.iastore, 1) := by decide +kernel
theorem d_EM_commit_84 : decode b_EM_commit 84 = .ok (.iconst 0, 1) := by decide +kernel
theorem d_EM_commit_85 : decode b_EM_commit 85 = .ok (.istore_n 3, 1) := by decide +kernel
theorem d_EM_commit_86 : decode b_EM_commit 86 = .ok (.iload_n 3, 1) := by decide +kernel
theorem d_EM_commit_87 : decode b_EM_commit 87 = .ok (.bipush 8, 2) := by decide +kernel
theorem d_EM_commit_89 : decode b_EM_commit 89 = .ok (.if_icmp .ge 31, 3) := by decide +kernel
theorem d_EM_commit_92 : decode b_EM_commit 92 = .ok (.aload_n 0, 1) := by decide +kernel
theorem d_EM_commit_93 : decode b_EM_commit 93 = .ok (.getfield 173, 3) := by decide +kernel
theorem d_EM_commit_96 : decode b_EM_commit 96 = .ok (.bipush 8, 2) := by decide +kernel
theorem d_EM_commit_98 : decode b_EM_commit 98 = .ok (.iload_n 2, 1) := by decide +kernel
theorem d_EM_commit_99 : decode b_EM_commit 99 = .ok (.imul, 1) := by decide +kernel
theorem d_EM_commit_100 : decode b_EM_commit 100 = .ok (.iload_n 3, 1) := by decide +kernel
theorem d_EM_commit_101 : decode b_EM_commit 101 = .ok (.iadd, 1) := by decide +kernel
theorem d_EM_commit_102 : decode b_EM_commit 102 = .ok (.aload_n 0, 1) := by decide +kernel
theorem d_EM_commit_103 : decode b_EM_commit 103 = .ok (.getfield 146, 3) := by decide +kernel
theorem d_EM_commit_106 : decode b_EM_commit 106 = .ok (.bipush 8, 2) := by decide +kernel
theorem d_EM_commit_108 : decode b_EM_commit 108 = .ok (.iload_n 1, 1) := by decide +kernel
theorem d_EM_commit_109 : decode b_EM_commit 109 = .ok (.imul, 1) := by decide +kernel
theorem d_EM_commit_110 : decode b_EM_commit 110 = .ok (.iload_n 3, 1) := by decide +kernel
theorem d_EM_commit_111 : decode b_EM_commit 111 = .ok (.iadd, 1) := by decide +kernel
theorem d_EM_commit_112 : decode b_EM_commit 112 = .ok (.iaload, 1) := by decide +kernel
theorem d_EM_commit_113 : decode b_EM_commit 113 = .ok (.iastore, 1) := by decide +kernel
theorem d_EM_commit_114 : decode b_EM_commit 114 = .ok (.iinc 3 1, 3) := by decide +kernel
theorem d_EM_commit_117 : decode b_EM_commit 117 = .ok (.goto (-31), 3) := by decide +kernel
theorem d_EM_commit_120 : decode b_EM_commit 120 = .ok (.iconst 1, 1) := by decide +kernel
theorem d_EM_commit_121 : decode b_EM_commit 121 = .ok (.ireturn, 1) := by decide +kernel
theorem d_EM_giveUp_0 : decode b_EM_giveUp 0 = .ok (.iload_n 1, 1) := by decide +kernel
theorem d_EM_giveUp_1 : decode b_EM_giveUp 1 = .ok (.invokestatic 235, 3) := by decide +kernel
theorem d_EM_giveUp_4 : decode b_EM_giveUp 4 = .ok (.ifCond .eq 23, 3) := by decide +kernel
theorem d_EM_giveUp_7 : decode b_EM_giveUp 7 = .ok (.aload_n 0, 1) := by decide +kernel
theorem d_EM_giveUp_8 : decode b_EM_giveUp 8 = .ok (.getfield 131, 3) := by decide +kernel
theorem d_EM_giveUp_11 : decode b_EM_giveUp 11 = .ok (.iload_n 1, 1) := by decide +kernel
theorem d_EM_giveUp_12 : decode b_EM_giveUp 12 = .ok (.iaload, 1) := by decide +kernel
theorem d_EM_giveUp_13 : decode b_EM_giveUp 13 = .ok (.iconst 1, 1) := by decide +kernel
theorem d_EM_giveUp_14 : decode b_EM_giveUp 14 = .ok (.if_icmp .lt 13, 3) := by decide +kernel
theorem d_EM_giveUp_17 : decode b_EM_giveUp 17 = .ok (.aload_n 0, 1) := by decide +kernel
theorem d_EM_giveUp_18 : decode b_EM_giveUp 18 = .ok (.getfield 131, 3) := by decide +kernel
theorem d_EM_giveUp_21 : decode b_EM_giveUp 21 = .ok (.iload_n 1, 1) := by decide +kernel
theorem d_EM_giveUp_22 : decode b_EM_giveUp 22 = .ok (.iaload, 1) := by decide +kernel
theorem d_EM_giveUp_23 : decode b_EM_giveUp 23 = .ok (.iconst 3, 1) := by decide +kernel
theorem d_EM_giveUp_24 : decode b_EM_giveUp 24 = .ok (.if_icmp .le 5, 3) := by decide +kernel
theorem d_EM_giveUp_27 : decode b_EM_giveUp 27 = .ok (.iconst 0, 1) := by decide +kernel
theorem d_EM_giveUp_28 : decode b_EM_giveUp 28 = .ok (.ireturn, 1) := by decide +kernel
theorem d_EM_giveUp_29 : decode b_EM_giveUp 29 = .ok (.aload_n 0, 1) := by decide +kernel
theorem d_EM_giveUp_30 : decode b_EM_giveUp 30 = .ok (.getfield 131, 3) := by decide +kernel
theorem d_EM_giveUp_33 : decode b_EM_giveUp 33 = .ok (.iload_n 1, 1) := by decide +kernel
theorem d_EM_giveUp_34 : decode b_EM_giveUp 34 = .ok (.aload_n 0, 1) := by decide +kernel
theorem d_EM_giveUp_35 : decode b_EM_giveUp 35 = .ok (.getfield 131, 3) := by decide +kernel
theorem d_EM_giveUp_38 : decode b_EM_giveUp 38 = .ok (.iload_n 1, 1) := by decide +kernel
theorem d_EM_giveUp_39 : decode b_EM_giveUp 39 = .ok (.iaload, 1) := by decide +kernel
theorem d_EM_giveUp_40 : decode b_EM_giveUp 40 = .ok (.iconst 3, 1) := by decide +kernel
theorem d_EM_giveUp_41 : decode b_EM_giveUp 41 = .ok (.if_icmp .ne 8, 3) := by decide +kernel
theorem d_EM_giveUp_44 : decode b_EM_giveUp 44 = .ok (.bipush 7, 2) := by decide +kernel
theorem d_EM_giveUp_46 : decode b_EM_giveUp 46 = .ok (.goto 5, 3) := by decide +kernel
theorem d_EM_giveUp_49 : decode b_EM_giveUp 49 = .ok (.bipush 8, 2) := by decide +kernel
theorem d_EM_giveUp_51 : decode b_EM_giveUp 51 = .ok (.iastore, 1) := by decide +kernel
theorem d_EM_giveUp_52 : decode b_EM_giveUp 52 = .ok (.iconst 1, 1) := by decide +kernel
theorem d_EM_giveUp_53 : decode b_EM_giveUp 53 = .ok (.ireturn, 1) := by decide +kernel
theorem d_EM_status_0 : decode b_EM_status 0 = .ok (.iload_n 1, 1) := by decide +kernel
theorem d_EM_status_1 : decode b_EM_status 1 = .ok (.invokestatic 235, 3) := by decide +kernel
theorem d_EM_status_4 : decode b_EM_status 4 = .ok (.ifCond .eq 32, 3) := by decide +kernel
theorem d_EM_status_7 : decode b_EM_status 7 = .ok (.aload_n 0, 1) := by decide +kernel
theorem d_EM_status_8 : decode b_EM_status 8 = .ok (.getfield 131, 3) := by decide +kernel
theorem d_EM_status_11 : decode b_EM_status 11 = .ok (.iload_n 1, 1) := by decide +kernel
theorem d_EM_status_12 : decode b_EM_status 12 = .ok (.iaload, 1) := by decide +kernel
theorem d_EM_status_13 : decode b_EM_status 13 = .ok (.bipush 16, 2) := by decide +kernel
theorem d_EM_status_15 : decode b_EM_status 15 = .ok (.aload_n 0, 1) := by decide +kernel
theorem d_EM_status_16 : decode b_EM_status 16 = .ok (.getfield 134, 3) := by decide +kernel
theorem d_EM_status_19 : decode b_EM_status 19 = .ok (.iload_n 1, 1) := by decide +kernel
theorem d_EM_status_20 : decode b_EM_status 20 = .ok (.iaload, 1) := by decide +kernel
theorem d_EM_status_21 : decode b_EM_status 21 = .ok (.imul, 1) := by decide +kernel
theorem d_EM_status_22 : decode b_EM_status 22 = .ok (.iadd, 1) := by decide +kernel
theorem d_EM_status_23 : decode b_EM_status 23 = .ok (.ldc 184, 2) := by decide +kernel
theorem d_EM_status_25 : decode b_EM_status 25 = .ok (.aload_n 0, 1) := by decide +kernel
theorem d_EM_status_26 : decode b_EM_status 26 = .ok (.getfield 149, 3) := by decide +kernel
theorem d_EM_status_29 : decode b_EM_status 29 = .ok (.iload_n 1, 1) := by decide +kernel
theorem d_EM_status_30 : decode b_EM_status 30 = .ok (.iaload, 1) := by decide +kernel
theorem d_EM_status_31 : decode b_EM_status 31 = .ok (.imul, 1) := by decide +kernel
theorem d_EM_status_32 : decode b_EM_status 32 = .ok (.iadd, 1) := by decide +kernel
theorem d_EM_status_33 : decode b_EM_status 33 = .ok (.goto 4, 3) := by decide +kernel
theorem d_EM_status_36 : decode b_EM_status 36 = .ok (.iconst (-1), 1) := by decide +kernel
theorem d_EM_status_37 : decode b_EM_status 37 = .ok (.ireturn, 1) := by decide +kernel
