theorem d_EM_join_0 : decode b_EM_join 0 = .ok (.aload_n 0, 1) := by decide +kernel
theorem d_EM_join_1 : decode b_EM_join 1 = .ok (.getfield 38, 3) := by decide +kernel
theorem d_EM_join_4 : decode b_EM_join 4 = .ok (.bipush 10, 2) := by decide +kernel
theorem d_EM_join_6 : decode b_EM_join 6 = .ok (.iload_n 2, 1) := by decide +kernel
theorem d_EM_join_7 : decode b_EM_join 7 = .ok (.imul, 1) := by decide +kernel
theorem d_EM_join_8 : decode b_EM_join 8 = .ok (.aload_n 0, 1) := by decide +kernel
theorem d_EM_join_9 : decode b_EM_join 9 = .ok (.getfield 41, 3) := by decide +kernel
theorem d_EM_join_12 : decode b_EM_join 12 = .ok (.iload_n 1, 1) := by decide +kernel
theorem d_EM_join_13 : decode b_EM_join 13 = .ok (.iaload, 1) := by decide +kernel
theorem d_EM_join_14 : decode b_EM_join 14 = .ok (.iadd, 1) := by decide +kernel
theorem d_EM_join_15 : decode b_EM_join 15 = .ok (.iconst 1, 1) := by decide +kernel
theorem d_EM_join_16 : decode b_EM_join 16 = .ok (.iadd, 1) := by decide +kernel
theorem d_EM_join_17 : decode b_EM_join 17 = .ok (.iaload, 1) := by decide +kernel
theorem d_EM_join_18 : decode b_EM_join 18 = .ok (.istore_n 3, 1) := by decide +kernel
theorem d_EM_join_19 : decode b_EM_join 19 = .ok (.aload_n 0, 1) := by decide +kernel
theorem d_EM_join_20 : decode b_EM_join 20 = .ok (.getfield 50, 3) := by decide +kernel
theorem d_EM_join_23 : decode b_EM_join 23 = .ok (.iload_n 1, 1) := by decide +kernel
theorem d_EM_join_24 : decode b_EM_join 24 = .ok (.iaload, 1) := by decide +kernel
theorem d_EM_join_25 : decode b_EM_join 25 = .ok (.ifCond .le 39, 3) := by decide +kernel
theorem d_EM_join_28 : decode b_EM_join 28 = .ok (.aload_n 0, 1) := by decide +kernel
theorem d_EM_join_29 : decode b_EM_join 29 = .ok (.getfield 53, 3) := by decide +kernel
theorem d_EM_join_32 : decode b_EM_join 32 = .ok (.sipush 128, 3) := by decide +kernel
theorem d_EM_join_35 : decode b_EM_join 35 = .ok (.iload_n 1, 1) := by decide +kernel
theorem d_EM_join_36 : decode b_EM_join 36 = .ok (.imul, 1) := by decide +kernel
theorem d_EM_join_37 : decode b_EM_join 37 = .ok (.aload_n 0, 1) := by decide +kernel
theorem d_EM_join_38 : decode b_EM_join 38 = .ok (.getfield 50, 3) := by decide +kernel
theorem d_EM_join_41 : decode b_EM_join 41 = .ok (.iload_n 1, 1) := by decide +kernel
theorem d_EM_join_42 : decode b_EM_join 42 = .ok (.iaload, 1) := by decide +kernel
theorem d_EM_join_43 : decode b_EM_join 43 = .ok (.iadd, 1) := by decide +kernel
theorem d_EM_join_44 : decode b_EM_join 44 = .ok (.iconst 1, 1) := by decide +kernel
theorem d_EM_join_45 : decode b_EM_join 45 = .ok (.isub, 1) := by decide +kernel
theorem d_EM_join_46 : decode b_EM_join 46 = .ok (.iaload, 1) := by decide +kernel
theorem d_EM_join_47 : decode b_EM_join 47 = .ok (.iload_n 3, 1) := by decide +kernel
theorem d_EM_join_48 : decode b_EM_join 48 = .ok (.if_icmp .le 16, 3) := by decide +kernel
theorem d_EM_join_51 : decode b_EM_join 51 = .ok (.aload_n 0, 1) := by decide +kernel
theorem d_EM_join_52 : decode b_EM_join 52 = .ok (.getfield 50, 3) := by decide +kernel
theorem d_EM_join_55 : decode b_EM_join 55 = .ok (.iload_n 1, 1) := by decide +kernel
theorem d_EM_join_56 : decode b_EM_join 56 = .ok (.dup2, 1) := by decide +kernel
theorem d_EM_join_57 : decode b_EM_join 57 = .ok (.iaload, 1) := by decide +kernel
theorem d_EM_join_58 : decode b_EM_join 58 = .ok (.iconst 1, 1) := by decide +kernel
theorem d_EM_join_59 : decode b_EM_join 59 = .ok (.isub, 1) := by decide +kernel
theorem d_EM_join_60 : decode b_EM_join 60 = .ok (.iastore, 1) := by decide +kernel
theorem d_EM_join_61 : decode b_EM_join 61 = .ok (.goto (-42), 3) := by decide +kernel
theorem d_EM_join_64 : decode b_EM_join 64 = .ok (.aload_n 0, 1) := by decide +kernel
theorem d_EM_join_65 : decode b_EM_join 65 = .ok (.getfield 47, 3) := by decide +kernel
theorem d_EM_join_68 : decode b_EM_join 68 = .ok (.iload_n 1, 1) := by decide +kernel
theorem d_EM_join_69 : decode b_EM_join 69 = .ok (.aload_n 0, 1) := by decide +kernel
theorem d_EM_join_70 : decode b_EM_join 70 = .ok (.getfield 47, 3) := by decide +kernel
theorem d_EM_join_73 : decode b_EM_join 73 = .ok (.iload_n 1, 1) := by decide +kernel
theorem d_EM_join_74 : decode b_EM_join 74 = .ok (.iaload, 1) := by decide +kernel
theorem d_EM_join_75 : decode b_EM_join 75 = .ok (.iload_n 3, 1) := by decide +kernel
theorem d_EM_join_76 : decode b_EM_join 76 = .ok (.if_icmp .le 7, 3) := by decide +kernel
theorem d_EM_join_79 : decode b_EM_join 79 = .ok (.iload_n 3, 1) := by decide +kernel
theorem d_EM_join_80 : decode b_EM_join 80 = .ok (.goto 9, 3) := by decide +kernel
theorem d_EM_join_83 : decode b_EM_join 83 = .ok (.aload_n 0, 1) := by decide +kernel
theorem d_EM_join_84 : decode b_EM_join 84 = .ok (.getfield 47, 3) := by decide +kernel
theorem d_EM_join_87 : decode b_EM_join 87 = .ok (.iload_n 1, 1) := by decide +kernel
theorem d_EM_join_88 : decode b_EM_join 88 = .ok (.iaload, 1) := by decide +kernel
theorem d_EM_join_89 : decode b_EM_join 89 = .ok (.iastore, 1) := by decide +kernel
theorem d_EM_join_90 : decode b_EM_join 90 = .ok (.aload_n 0, 1) := by decide +kernel
theorem d_EM_join_91 : decode b_EM_join 91 = .ok (.getfield 41, 3) := by decide +kernel
theorem d_EM_join_94 : decode b_EM_join 94 = .ok (.iload_n 1, 1) := by decide +kernel
theorem d_EM_join_95 : decode b_EM_join 95 = .ok (.aload_n 0, 1) := by decide +kernel
theorem d_EM_join_96 : decode b_EM_join 96 = .ok (.getfield 17, 3) := by decide +kernel
theorem d_EM_join_99 : decode b_EM_join 99 = .ok (.iload_n 2, 1) := by decide +kernel
theorem d_EM_join_100 : decode b_EM_join 100 = .ok (.iaload, 1) := by decide +kernel
theorem d_EM_join_101 : decode b_EM_join 101 = .ok (.iastore, 1) := by decide +kernel
theorem d_EM_join_102 : decode b_EM_join 102 = .ok (.return_, 1) := by decide +kernel
theorem d_EM_keep_0 : decode b_EM_keep 0 = .ok (.aload_n 0, 1) := by decide +kernel
theorem d_EM_keep_1 : decode b_EM_keep 1 = .ok (.getfield 32, 3) := by decide +kernel
theorem d_EM_keep_4 : decode b_EM_keep 4 = .ok (.iload_n 2, 1) := by decide +kernel
theorem d_EM_keep_5 : decode b_EM_keep 5 = .ok (.iaload, 1) := by decide +kernel
theorem d_EM_keep_6 : decode b_EM_keep 6 = .ok (.iload_n 1, 1) := by decide +kernel
theorem d_EM_keep_7 : decode b_EM_keep 7 = .ok (.ifCond .ne 8, 3) := by decide +kernel
theorem d_EM_keep_10 : decode b_EM_keep 10 = .ok (.bipush 15, 2) := by decide +kernel
theorem d_EM_keep_12 : decode b_EM_keep 12 = .ok (.goto 6, 3) := by decide +kernel
theorem d_EM_keep_15 : decode b_EM_keep 15 = .ok (.sipush 240, 3) := by decide +kernel
theorem d_EM_keep_18 : decode b_EM_keep 18 = .ok (.iand, 1) := by decide +kernel
theorem d_EM_keep_19 : decode b_EM_keep 19 = .ok (.istore_n 3, 1) := by decide +kernel
theorem d_EM_keep_20 : decode b_EM_keep 20 = .ok (.iload_n 3, 1) := by decide +kernel
theorem d_EM_keep_21 : decode b_EM_keep 21 = .ok (.ifCond .eq 89, 3) := by decide +kernel
theorem d_EM_keep_24 : decode b_EM_keep 24 = .ok (.sipush 128, 3) := by decide +kernel
theorem d_EM_keep_27 : decode b_EM_keep 27 = .ok (.iload_n 1, 1) := by decide +kernel
theorem d_EM_keep_28 : decode b_EM_keep 28 = .ok (.imul, 1) := by decide +kernel
theorem d_EM_keep_29 : decode b_EM_keep 29 = .ok (.aload_n 0, 1) := by decide +kernel
theorem d_EM_keep_30 : decode b_EM_keep 30 = .ok (.getfield 50, 3) := by decide +kernel
theorem d_EM_keep_33 : decode b_EM_keep 33 = .ok (.iload_n 1, 1) := by decide +kernel
theorem d_EM_keep_34 : decode b_EM_keep 34 = .ok (.iaload, 1) := by decide +kernel
theorem d_EM_keep_35 : decode b_EM_keep 35 = .ok (.iadd, 1) := by decide +kernel
theorem d_EM_keep_36 : decode b_EM_keep 36 = .ok (.istore 4, 2) := by decide +kernel
theorem d_EM_keep_38 : decode b_EM_keep 38 = .ok (.aload_n 0, 1) := by decide +kernel
theorem d_EM_keep_39 : decode b_EM_keep 39 = .ok (.getfield 50, 3) := by decide +kernel
theorem d_EM_keep_42 : decode b_EM_keep 42 = .ok (.iload_n 1, 1) := by decide +kernel
theorem d_EM_keep_43 : decode b_EM_keep 43 = .ok (.dup2, 1) := by decide +kernel
theorem d_EM_keep_44 : decode b_EM_keep 44 = .ok (.iaload, 1) := by decide +kernel
theorem d_EM_keep_45 : decode b_EM_keep 45 = .ok (.iconst 1, 1) := by decide +kernel
theorem d_EM_keep_46 : decode b_EM_keep 46 = .ok (.iadd, 1) := by decide +kernel
theorem d_EM_keep_47 : decode b_EM_keep 47 = .ok (.iastore, 1) := by decide +kernel
theorem d_EM_keep_48 : decode b_EM_keep 48 = .ok (.aload_n 0, 1) := by decide +kernel
theorem d_EM_keep_49 : decode b_EM_keep 49 = .ok (.getfield 53, 3) := by decide +kernel
theorem d_EM_keep_52 : decode b_EM_keep 52 = .ok (.iload 4, 2) := by decide +kernel
theorem d_EM_keep_54 : decode b_EM_keep 54 = .ok (.aload_n 0, 1) := by decide +kernel
theorem d_EM_keep_55 : decode b_EM_keep 55 = .ok (.getfield 29, 3) := by decide +kernel
theorem d_EM_keep_58 : decode b_EM_keep 58 = .ok (.iload_n 2, 1) := by decide +kernel
theorem d_EM_keep_59 : decode b_EM_keep 59 = .ok (.iaload, 1) := by decide +kernel
theorem d_EM_keep_60 : decode b_EM_keep 60 = .ok (.iastore, 1) := by decide +kernel
theorem d_EM_keep_61 : decode b_EM_keep 61 = .ok (.aload_n 0, 1) := by decide +kernel
theorem d_EM_keep_62 : decode b_EM_keep 62 = .ok (.getfield 56, 3) := by decide +kernel
theorem d_EM_keep_65 : decode b_EM_keep 65 = .ok (.iload 4, 2) := by decide +kernel
theorem d_EM_keep_67 : decode b_EM_keep 67 = .ok (.iload_n 3, 1) := by decide +kernel
theorem d_EM_keep_68 : decode b_EM_keep 68 = .ok (.iastore, 1) := by decide +kernel
theorem d_EM_keep_69 : decode b_EM_keep 69 = .ok (.iconst 0, 1) := by decide +kernel
theorem d_EM_keep_70 : decode b_EM_keep 70 = .ok (.istore 5, 2) := by decide +kernel
theorem d_EM_keep_72 : decode b_EM_keep 72 = .ok (.iload 5, 2) := by decide +kernel
theorem d_EM_keep_74 : decode b_EM_keep 74 = .ok (.bipush 8, 2) := by decide +kernel
theorem d_EM_keep_76 : decode b_EM_keep 76 = .ok (.if_icmp .ge 34, 3) := by decide +kernel
theorem d_EM_keep_79 : decode b_EM_keep 79 = .ok (.aload_n 0, 1) := by decide +kernel
theorem d_EM_keep_80 : decode b_EM_keep 80 = .ok (.getfield 59, 3) := by decide +kernel
theorem d_EM_keep_83 : decode b_EM_keep 83 = .ok (.bipush 8, 2) := by decide +kernel
theorem d_EM_keep_85 : decode b_EM_keep 85 = .ok (.iload 4, 2) := by decide +kernel
theorem d_EM_keep_87 : decode b_EM_keep 87 = .ok (.imul, 1) := by decide +kernel
theorem d_EM_keep_88 : decode b_EM_keep 88 = .ok (.iload 5, 2) := by decide +kernel
theorem d_EM_keep_90 : decode b_EM_keep 90 = .ok (.iadd, 1) := by decide +kernel
theorem d_EM_keep_91 : decode b_EM_keep 91 = .ok (.aload_n 0, 1) := by decide +kernel
theorem d_EM_keep_92 : decode b_EM_keep 92 = .ok (.getfield 35, 3) := by decide +kernel
theorem d_EM_keep_95 : decode b_EM_keep 95 = .ok (.bipush 8, 2) := by decide +kernel
theorem d_EM_keep_97 : decode b_EM_keep 97 = .ok (.iload_n 2, 1) := by decide +kernel
theorem d_EM_keep_98 : decode b_EM_keep 98 = .ok (.imul, 1) := by decide +kernel
theorem d_EM_keep_99 : decode b_EM_keep 99 = .ok (.iload 5, 2) := by decide +kernel
theorem d_EM_keep_101 : decode b_EM_keep 101 = .ok (.iadd, 1) := by decide +kernel
theorem d_EM_keep_102 : decode b_EM_keep 102 = .ok (.iaload, 1) := by decide +kernel
theorem d_EM_keep_103 : decode b_EM_keep 103 = .ok (.iastore, 1) := by decide +kernel
theorem d_EM_keep_104 : decode b_EM_keep 104 = .ok (.iinc 5 1, 3) := by decide +kernel
theorem d_EM_keep_107 : decode b_EM_keep 107 = .ok (.goto (-35), 3) := by decide +kernel
theorem d_EM_keep_110 : decode b_EM_keep 110 = .ok (.return_, 1) := by decide +kernel
theorem d_EM_pull_0 : decode b_EM_pull 0 = .ok (.iload_n 1, 1) := by decide +kernel
theorem d_EM_pull_1 : decode b_EM_pull 1 = .ok (.ifCond .lt 50, 3) := by decide +kernel
theorem d_EM_pull_4 : decode b_EM_pull 4 = .ok (.iload_n 1, 1) := by decide +kernel
theorem d_EM_pull_5 : decode b_EM_pull 5 = .ok (.iconst 1, 1) := by decide +kernel
theorem d_EM_pull_6 : decode b_EM_pull 6 = .ok (.if_icmp .gt 45, 3) := by decide +kernel
theorem d_EM_pull_9 : decode b_EM_pull 9 = .ok (.iload_n 2, 1) := by decide +kernel
theorem d_EM_pull_10 : decode b_EM_pull 10 = .ok (.ifCond .lt 41, 3) := by decide +kernel
theorem d_EM_pull_13 : decode b_EM_pull 13 = .ok (.iload_n 2, 1) := by decide +kernel
theorem d_EM_pull_14 : decode b_EM_pull 14 = .ok (.iconst 2, 1) := by decide +kernel
theorem d_EM_pull_15 : decode b_EM_pull 15 = .ok (.if_icmp .gt 36, 3) := by decide +kernel
theorem d_EM_pull_18 : decode b_EM_pull 18 = .ok (.aload_n 0, 1) := by decide +kernel
theorem d_EM_pull_19 : decode b_EM_pull 19 = .ok (.getfield 44, 3) := by decide +kernel
theorem d_EM_pull_22 : decode b_EM_pull 22 = .ok (.iload_n 1, 1) := by decide +kernel
theorem d_EM_pull_23 : decode b_EM_pull 23 = .ok (.baload, 1) := by decide +kernel
theorem d_EM_pull_24 : decode b_EM_pull 24 = .ok (.ifCond .eq 27, 3) := by decide +kernel
theorem d_EM_pull_27 : decode b_EM_pull 27 = .ok (.aload_n 0, 1) := by decide +kernel
theorem d_EM_pull_28 : decode b_EM_pull 28 = .ok (.getfield 20, 3) := by decide +kernel
theorem d_EM_pull_31 : decode b_EM_pull 31 = .ok (.iload_n 2, 1) := by decide +kernel
theorem d_EM_pull_32 : decode b_EM_pull 32 = .ok (.baload, 1) := by decide +kernel
theorem d_EM_pull_33 : decode b_EM_pull 33 = .ok (.ifCond .eq 18, 3) := by decide +kernel
theorem d_EM_pull_36 : decode b_EM_pull 36 = .ok (.aload_n 0, 1) := by decide +kernel
theorem d_EM_pull_37 : decode b_EM_pull 37 = .ok (.getfield 17, 3) := by decide +kernel
theorem d_EM_pull_40 : decode b_EM_pull 40 = .ok (.iload_n 2, 1) := by decide +kernel
theorem d_EM_pull_41 : decode b_EM_pull 41 = .ok (.iaload, 1) := by decide +kernel
theorem d_EM_pull_42 : decode b_EM_pull 42 = .ok (.aload_n 0, 1) := by decide +kernel
theorem d_EM_pull_43 : decode b_EM_pull 43 = .ok (.getfield 41, 3) := by decide +kernel
theorem d_EM_pull_46 : decode b_EM_pull 46 = .ok (.iload_n 1, 1) := by decide +kernel
theorem d_EM_pull_47 : decode b_EM_pull 47 = .ok (.iaload, 1) := by decide +kernel
theorem d_EM_pull_48 : decode b_EM_pull 48 = .ok (.if_icmp .ge 5, 3) := by decide +kernel
theorem d_EM_pull_51 : decode b_EM_pull 51 = .ok (.iconst (-1), 1) := by decide +kernel
theorem d_EM_pull_52 : decode b_EM_pull 52 = .ok (.ireturn, 1) := by decide +kernel
theorem d_EM_pull_53 : decode b_EM_pull 53 = .ok (.aload_n 0, 1) := by decide +kernel
theorem d_EM_pull_54 : decode b_EM_pull 54 = .ok (.getfield 17, 3) := by decide +kernel
theorem d_EM_pull_57 : decode b_EM_pull 57 = .ok (.iload_n 2, 1) := by decide +kernel
theorem d_EM_pull_58 : decode b_EM_pull 58 = .ok (.iaload, 1) := by decide +kernel
theorem d_EM_pull_59 : decode b_EM_pull 59 = .ok (.aload_n 0, 1) := by decide +kernel
theorem d_EM_pull_60 : decode b_EM_pull 60 = .ok (.getfield 41, 3) := by decide +kernel
theorem d_EM_pull_63 : decode b_EM_pull 63 = .ok (.iload_n 1, 1) := by decide +kernel
theorem d_EM_pull_64 : decode b_EM_pull 64 = .ok (.iaload, 1) := by decide +kernel
theorem d_EM_pull_65 : decode b_EM_pull 65 = .ok (.if_icmp .le 9, 3) := by decide +kernel
theorem d_EM_pull_68 : decode b_EM_pull 68 = .ok (.aload_n 0, 1) := by decide +kernel
theorem d_EM_pull_69 : decode b_EM_pull 69 = .ok (.iload_n 1, 1) := by decide +kernel
theorem d_EM_pull_70 : decode b_EM_pull 70 = .ok (.iload_n 2, 1) := by decide +kernel
theorem d_EM_pull_71 : decode b_EM_pull 71 = .ok (.invokevirtual 264, 3) := by decide +kernel
theorem d_EM_pull_74 : decode b_EM_pull 74 = .ok (.bipush 100, 2) := by decide +kernel
theorem d_EM_pull_76 : decode b_EM_pull 76 = .ok (.iload_n 2, 1) := by decide +kernel
theorem d_EM_pull_77 : decode b_EM_pull 77 = .ok (.imul, 1) := by decide +kernel
theorem d_EM_pull_78 : decode b_EM_pull 78 = .ok (.istore_n 3, 1) := by decide +kernel
theorem d_EM_pull_79 : decode b_EM_pull 79 = .ok (.iload_n 3, 1) := by decide +kernel
theorem d_EM_pull_80 : decode b_EM_pull 80 = .ok (.aload_n 0, 1) := by decide +kernel
theorem d_EM_pull_81 : decode b_EM_pull 81 = .ok (.getfield 26, 3) := by decide +kernel
theorem d_EM_pull_84 : decode b_EM_pull 84 = .ok (.iload_n 2, 1) := by decide +kernel
theorem d_EM_pull_85 : decode b_EM_pull 85 = .ok (.iaload, 1) := by decide +kernel
theorem d_EM_pull_86 : decode b_EM_pull 86 = .ok (.iadd, 1) := by decide +kernel
theorem d_EM_pull_87 : decode b_EM_pull 87 = .ok (.istore 4, 2) := by decide +kernel
theorem d_EM_pull_89 : decode b_EM_pull 89 = .ok (.iload_n 3, 1) := by decide +kernel
theorem d_EM_pull_90 : decode b_EM_pull 90 = .ok (.iload 4, 2) := by decide +kernel
theorem d_EM_pull_92 : decode b_EM_pull 92 = .ok (.if_icmp .ge 24, 3) := by decide +kernel
theorem d_EM_pull_95 : decode b_EM_pull 95 = .ok (.aload_n 0, 1) := by decide +kernel
theorem d_EM_pull_96 : decode b_EM_pull 96 = .ok (.getfield 29, 3) := by decide +kernel
theorem d_EM_pull_99 : decode b_EM_pull 99 = .ok (.iload_n 3, 1) := by decide +kernel
theorem d_EM_pull_100 : decode b_EM_pull 100 = .ok (.iaload, 1) := by decide +kernel
theorem d_EM_pull_101 : decode b_EM_pull 101 = .ok (.aload_n 0, 1) := by decide +kernel
theorem d_EM_pull_102 : decode b_EM_pull 102 = .ok (.getfield 47, 3) := by decide +kernel
theorem d_EM_pull_105 : decode b_EM_pull 105 = .ok (.iload_n 1, 1) := by decide +kernel
theorem d_EM_pull_106 : decode b_EM_pull 106 = .ok (.iaload, 1) := by decide +kernel
theorem d_EM_pull_107 : decode b_EM_pull 107 = .ok (.if_icmp .gt 9, 3) := by decide +kernel
theorem d_EM_pull_110 : decode b_EM_pull 110 = .ok (.iinc 3 1, 3) := by decide +kernel
theorem d_EM_pull_113 : decode b_EM_pull 113 = .ok (.goto (-24), 3) := by decide +kernel
theorem d_EM_pull_116 : decode b_EM_pull 116 = .ok (.iload_n 3, 1) := by decide +kernel
theorem d_EM_pull_117 : decode b_EM_pull 117 = .ok (.iload 4, 2) := by decide +kernel
theorem d_EM_pull_119 : decode b_EM_pull 119 = .ok (.if_icmp .ge 24, 3) := by decide +kernel
theorem d_EM_pull_122 : decode b_EM_pull 122 = .ok (.aload_n 0, 1) := by decide +kernel
theorem d_EM_pull_123 : decode b_EM_pull 123 = .ok (.iload_n 1, 1) := by decide +kernel
theorem d_EM_pull_124 : decode b_EM_pull 124 = .ok (.iload_n 3, 1) := by decide +kernel
theorem d_EM_pull_125 : decode b_EM_pull 125 = .ok (.invokevirtual 267, 3) := by decide +kernel
theorem d_EM_pull_128 : decode b_EM_pull 128 = .ok (.aload_n 0, 1) := by decide +kernel
theorem d_EM_pull_129 : decode b_EM_pull 129 = .ok (.getfield 47, 3) := by decide +kernel
theorem d_EM_pull_132 : decode b_EM_pull 132 = .ok (.iload_n 1, 1) := by decide +kernel
theorem d_EM_pull_133 : decode b_EM_pull 133 = .ok (.aload_n 0, 1) := by decide +kernel
theorem d_EM_pull_134 : decode b_EM_pull 134 = .ok (.getfield 29, 3) := by decide +kernel
theorem d_EM_pull_137 : decode b_EM_pull 137 = .ok (.iload_n 3, 1) := by decide +kernel
theorem d_EM_pull_138 : decode b_EM_pull 138 = .ok (.iaload, 1) := by decide +kernel
theorem d_EM_pull_139 : decode b_EM_pull 139 = .ok (.iastore, 1) := by decide +kernel
theorem d_EM_pull_140 : decode b_EM_pull 140 = .ok (.goto 30, 3) := by decide +kernel
theorem d_EM_pull_143 : decode b_EM_pull 143 = .ok (.aload_n 0, 1) := by decide +kernel
theorem d_EM_pull_144 : decode b_EM_pull 144 = .ok (.getfield 23, 3) := by decide +kernel
theorem d_EM_pull_147 : decode b_EM_pull 147 = .ok (.iload_n 2, 1) := by decide +kernel
theorem d_EM_pull_148 : decode b_EM_pull 148 = .ok (.iaload, 1) := by decide +kernel
theorem d_EM_pull_149 : decode b_EM_pull 149 = .ok (.aload_n 0, 1) := by decide +kernel
theorem d_EM_pull_150 : decode b_EM_pull 150 = .ok (.getfield 47, 3) := by decide +kernel
theorem d_EM_pull_153 : decode b_EM_pull 153 = .ok (.iload_n 1, 1) := by decide +kernel
theorem d_EM_pull_154 : decode b_EM_pull 154 = .ok (.iaload, 1) := by decide +kernel
theorem d_EM_pull_155 : decode b_EM_pull 155 = .ok (.if_icmp .le 15, 3) := by decide +kernel
theorem d_EM_pull_158 : decode b_EM_pull 158 = .ok (.aload_n 0, 1) := by decide +kernel
theorem d_EM_pull_159 : decode b_EM_pull 159 = .ok (.getfield 47, 3) := by decide +kernel
theorem d_EM_pull_162 : decode b_EM_pull 162 = .ok (.iload_n 1, 1) := by decide +kernel
theorem d_EM_pull_163 : decode b_EM_pull 163 = .ok (.aload_n 0, 1) := by decide +kernel
theorem d_EM_pull_164 : decode b_EM_pull 164 = .ok (.getfield 23, 3) := by decide +kernel
theorem d_EM_pull_167 : decode b_EM_pull 167 = .ok (.iload_n 2, 1) := by decide +kernel
theorem d_EM_pull_168 : decode b_EM_pull 168 = .ok (.iaload, 1) := by decide +kernel
theorem d_EM_pull_169 : decode b_EM_pull 169 = .ok (.iastore, 1) := by decide +kernel
theorem d_EM_pull_170 : decode b_EM_pull 170 = .ok (.aload_n 0, 1) := by decide +kernel
theorem d_EM_pull_171 : decode b_EM_pull 171 = .ok (.getfield 47, 3) := by decide +kernel
theorem d_EM_pull_174 : decode b_EM_pull 174 = .ok (.iload_n 1, 1) := by decide +kernel
theorem d_EM_pull_175 : decode b_EM_pull 175 = .ok (.iaload, 1) := by decide +kernel
theorem d_EM_pull_176 : decode b_EM_pull 176 = .ok (.ireturn, 1) := by decide +kernel
