theorem d_EM_push_0 : decode b_EM_push 0 = .ok (.aload_n 0, 1) := by decide +kernel
theorem d_EM_push_1 : decode b_EM_push 1 = .ok (.iload_n 1, 1) := by decide +kernel
theorem d_EM_push_2 : decode b_EM_push 2 = .ok (.invokevirtual 231, 3) := by decide +kernel
theorem d_EM_push_5 : decode b_EM_push 5 = .ok (.ifCond .ne 5, 3) := by decide +kernel
theorem d_EM_push_8 : decode b_EM_push 8 = .ok (.iconst (-1), 1) := by decide +kernel
theorem d_EM_push_9 : decode b_EM_push 9 = .ok (.ireturn, 1) := by decide +kernel
theorem d_EM_push_10 : decode b_EM_push 10 = .ok (.iconst 0, 1) := by decide +kernel
theorem d_EM_push_11 : decode b_EM_push 11 = .ok (.istore_n 2, 1) := by decide +kernel
theorem d_EM_push_12 : decode b_EM_push 12 = .ok (.bipush 8, 2) := by decide +kernel
theorem d_EM_push_14 : decode b_EM_push 14 = .ok (.iload_n 1, 1) := by decide +kernel
theorem d_EM_push_15 : decode b_EM_push 15 = .ok (.imul, 1) := by decide +kernel
theorem d_EM_push_16 : decode b_EM_push 16 = .ok (.istore_n 3, 1) := by decide +kernel
theorem d_EM_push_17 : decode b_EM_push 17 = .ok (.iload_n 3, 1) := by decide +kernel
theorem d_EM_push_18 : decode b_EM_push 18 = .ok (.bipush 8, 2) := by decide +kernel
theorem d_EM_push_20 : decode b_EM_push 20 = .ok (.iload_n 1, 1) := by decide +kernel
theorem d_EM_push_21 : decode b_EM_push 21 = .ok (.imul, 1) := by decide +kernel
theorem d_EM_push_22 : decode b_EM_push 22 = .ok (.aload_n 0, 1) := by decide +kernel
theorem d_EM_push_23 : decode b_EM_push 23 = .ok (.getfield 101, 3) := by decide +kernel
theorem d_EM_push_26 : decode b_EM_push 26 = .ok (.iload_n 1, 1) := by decide +kernel
theorem d_EM_push_27 : decode b_EM_push 27 = .ok (.iaload, 1) := by decide +kernel
theorem d_EM_push_28 : decode b_EM_push 28 = .ok (.iadd, 1) := by decide +kernel
theorem d_EM_push_29 : decode b_EM_push 29 = .ok (.if_icmp .ge 18, 3) := by decide +kernel
theorem d_EM_push_32 : decode b_EM_push 32 = .ok (.iload_n 2, 1) := by decide +kernel
theorem d_EM_push_33 : decode b_EM_push 33 = .ok (.aload_n 0, 1) := by decide +kernel
theorem d_EM_push_34 : decode b_EM_push 34 = .ok (.iload_n 1, 1) := by decide +kernel
theorem d_EM_push_35 : decode b_EM_push 35 = .ok (.iload_n 3, 1) := by decide +kernel
theorem d_EM_push_36 : decode b_EM_push 36 = .ok (.invokevirtual 224, 3) := by decide +kernel
theorem d_EM_push_39 : decode b_EM_push 39 = .ok (.iadd, 1) := by decide +kernel
theorem d_EM_push_40 : decode b_EM_push 40 = .ok (.istore_n 2, 1) := by decide +kernel
theorem d_EM_push_41 : decode b_EM_push 41 = .ok (.iinc 3 1, 3) := by decide +kernel
theorem d_EM_push_44 : decode b_EM_push 44 = .ok (.goto (-27), 3) := by decide +kernel
theorem d_EM_push_47 : decode b_EM_push 47 = .ok (.iload_n 2, 1) := by decide +kernel
theorem d_EM_push_48 : decode b_EM_push 48 = .ok (.ireturn, 1) := by decide +kernel
theorem d_EM_master_0 : decode b_EM_master 0 = .ok (.aload_n 0, 1) := by decide +kernel
theorem d_EM_master_1 : decode b_EM_master 1 = .ok (.iload_n 1, 1) := by decide +kernel
theorem d_EM_master_2 : decode b_EM_master 2 = .ok (.invokevirtual 231, 3) := by decide +kernel
theorem d_EM_master_5 : decode b_EM_master 5 = .ok (.ifCond .eq 33, 3) := by decide +kernel
theorem d_EM_master_8 : decode b_EM_master 8 = .ok (.aload_n 0, 1) := by decide +kernel
theorem d_EM_master_9 : decode b_EM_master 9 = .ok (.getfield 86, 3) := by decide +kernel
theorem d_EM_master_12 : decode b_EM_master 12 = .ok (.iload_n 1, 1) := by decide +kernel
theorem d_EM_master_13 : decode b_EM_master 13 = .ok (.iaload, 1) := by decide +kernel
theorem d_EM_master_14 : decode b_EM_master 14 = .ok (.bipush 16, 2) := by decide +kernel
theorem d_EM_master_16 : decode b_EM_master 16 = .ok (.aload_n 0, 1) := by decide +kernel
theorem d_EM_master_17 : decode b_EM_master 17 = .ok (.getfield 101, 3) := by decide +kernel
theorem d_EM_master_20 : decode b_EM_master 20 = .ok (.iload_n 1, 1) := by decide +kernel
theorem d_EM_master_21 : decode b_EM_master 21 = .ok (.iaload, 1) := by decide +kernel
theorem d_EM_master_22 : decode b_EM_master 22 = .ok (.imul, 1) := by decide +kernel
theorem d_EM_master_23 : decode b_EM_master 23 = .ok (.iadd, 1) := by decide +kernel
theorem d_EM_master_24 : decode b_EM_master 24 = .ok (.sipush 256, 3) := by decide +kernel
theorem d_EM_master_27 : decode b_EM_master 27 = .ok (.aload_n 0, 1) := by decide +kernel
theorem d_EM_master_28 : decode b_EM_master 28 = .ok (.getfield 71, 3) := by decide +kernel
theorem d_EM_master_31 : decode b_EM_master 31 = .ok (.iload_n 1, 1) := by decide +kernel
theorem d_EM_master_32 : decode b_EM_master 32 = .ok (.iaload, 1) := by decide +kernel
theorem d_EM_master_33 : decode b_EM_master 33 = .ok (.imul, 1) := by decide +kernel
theorem d_EM_master_34 : decode b_EM_master 34 = .ok (.iadd, 1) := by decide +kernel
theorem d_EM_master_35 : decode b_EM_master 35 = .ok (.goto 4, 3) := by decide +kernel
theorem d_EM_master_38 : decode b_EM_master 38 = .ok (.iconst (-1), 1) := by decide +kernel
theorem d_EM_master_39 : decode b_EM_master 39 = .ok (.ireturn, 1) := by decide +kernel
theorem d_EM_committed_0 : decode b_EM_committed 0 = .ok (.aload_n 0, 1) := by decide +kernel
theorem d_EM_committed_1 : decode b_EM_committed 1 = .ok (.iload_n 1, 1) := by decide +kernel
theorem d_EM_committed_2 : decode b_EM_committed 2 = .ok (.invokevirtual 231, 3) := by decide +kernel
theorem d_EM_committed_5 : decode b_EM_committed 5 = .ok (.ifCond .eq 12, 3) := by decide +kernel
theorem d_EM_committed_8 : decode b_EM_committed 8 = .ok (.aload_n 0, 1) := by decide +kernel
theorem d_EM_committed_9 : decode b_EM_committed 9 = .ok (.getfield 77, 3) := by decide +kernel
theorem d_EM_committed_12 : decode b_EM_committed 12 = .ok (.iload_n 1, 1) := by decide +kernel
theorem d_EM_committed_13 : decode b_EM_committed 13 = .ok (.iaload, 1) := by decide +kernel
theorem d_EM_committed_14 : decode b_EM_committed 14 = .ok (.goto 4, 3) := by decide +kernel
theorem d_EM_committed_17 : decode b_EM_committed 17 = .ok (.iconst (-1), 1) := by decide +kernel
theorem d_EM_committed_18 : decode b_EM_committed 18 = .ok (.ireturn, 1) := by decide +kernel
theorem d_EM_isClient_0 : decode b_EM_isClient 0 = .ok (.iload_n 0, 1) := by decide +kernel
theorem d_EM_isClient_1 : decode b_EM_isClient 1 = .ok (.ifCond .lt 12, 3) := by decide +kernel
theorem d_EM_isClient_4 : decode b_EM_isClient 4 = .ok (.iload_n 0, 1) := by decide +kernel
theorem d_EM_isClient_5 : decode b_EM_isClient 5 = .ok (.iconst 2, 1) := by decide +kernel
theorem d_EM_isClient_6 : decode b_EM_isClient 6 = .ok (.if_icmp .gt 7, 3) := by decide +kernel
theorem d_EM_isClient_9 : decode b_EM_isClient 9 = .ok (.iconst 1, 1) := by decide +kernel
theorem d_EM_isClient_10 : decode b_EM_isClient 10 = .ok (.goto 4, 3) := by decide +kernel
theorem d_EM_isClient_13 : decode b_EM_isClient 13 = .ok (.iconst 0, 1) := by decide +kernel
theorem d_EM_isClient_14 : decode b_EM_isClient 14 = .ok (.ireturn, 1) := by decide +kernel
theorem d_EM_isOpen_0 : decode b_EM_isOpen 0 = .ok (.iload_n 1, 1) := by decide +kernel
theorem d_EM_isOpen_1 : decode b_EM_isOpen 1 = .ok (.invokestatic 235, 3) := by decide +kernel
theorem d_EM_isOpen_4 : decode b_EM_isOpen 4 = .ok (.ifCond .eq 17, 3) := by decide +kernel
theorem d_EM_isOpen_7 : decode b_EM_isOpen 7 = .ok (.aload_n 0, 1) := by decide +kernel
theorem d_EM_isOpen_8 : decode b_EM_isOpen 8 = .ok (.getfield 131, 3) := by decide +kernel
theorem d_EM_isOpen_11 : decode b_EM_isOpen 11 = .ok (.iload_n 1, 1) := by decide +kernel
theorem d_EM_isOpen_12 : decode b_EM_isOpen 12 = .ok (.iaload, 1) := by decide +kernel
theorem d_EM_isOpen_13 : decode b_EM_isOpen 13 = .ok (.iconst 2, 1) := by decide +kernel
theorem d_EM_isOpen_14 : decode b_EM_isOpen 14 = .ok (.if_icmp .ne 7, 3) := by decide +kernel
theorem d_EM_isOpen_17 : decode b_EM_isOpen 17 = .ok (.iconst 1, 1) := by decide +kernel
theorem d_EM_isOpen_18 : decode b_EM_isOpen 18 = .ok (.goto 4, 3) := by decide +kernel
theorem d_EM_isOpen_21 : decode b_EM_isOpen 21 = .ok (.iconst 0, 1) := by decide +kernel
theorem d_EM_isOpen_22 : decode b_EM_isOpen 22 = .ok (.ireturn, 1) := by decide +kernel
theorem d_EM_coordinatorsUp_0 : decode b_EM_coordinatorsUp 0 = .ok (.iconst 0, 1) := by decide +kernel
theorem d_EM_coordinatorsUp_1 : decode b_EM_coordinatorsUp 1 = .ok (.istore_n 1, 1) := by decide +kernel
theorem d_EM_coordinatorsUp_2 : decode b_EM_coordinatorsUp 2 = .ok (.iconst 0, 1) := by decide +kernel
theorem d_EM_coordinatorsUp_3 : decode b_EM_coordinatorsUp 3 = .ok (.istore_n 2, 1) := by decide +kernel
theorem d_EM_coordinatorsUp_4 : decode b_EM_coordinatorsUp 4 = .ok (.iload_n 2, 1) := by decide +kernel
theorem d_EM_coordinatorsUp_5 : decode b_EM_coordinatorsUp 5 = .ok (.iconst 3, 1) := by decide +kernel
theorem d_EM_coordinatorsUp_6 : decode b_EM_coordinatorsUp 6 = .ok (.if_icmp .ge 26, 3) := by decide +kernel
theorem d_EM_coordinatorsUp_9 : decode b_EM_coordinatorsUp 9 = .ok (.aload_n 0, 1) := by decide +kernel
theorem d_EM_coordinatorsUp_10 : decode b_EM_coordinatorsUp 10 = .ok (.getfield 13, 3) := by decide +kernel
theorem d_EM_coordinatorsUp_13 : decode b_EM_coordinatorsUp 13 = .ok (.iload_n 2, 1) := by decide +kernel
theorem d_EM_coordinatorsUp_14 : decode b_EM_coordinatorsUp 14 = .ok (.baload, 1) := by decide +kernel
theorem d_EM_coordinatorsUp_15 : decode b_EM_coordinatorsUp 15 = .ok (.ifCond .eq 9, 3) := by decide +kernel
theorem d_EM_coordinatorsUp_18 : decode b_EM_coordinatorsUp 18 = .ok (.iload_n 1, 1) := by decide +kernel
theorem d_EM_coordinatorsUp_19 : decode b_EM_coordinatorsUp 19 = .ok (.iconst 1, 1) := by decide +kernel
theorem d_EM_coordinatorsUp_20 : decode b_EM_coordinatorsUp 20 = .ok (.iadd, 1) := by decide +kernel
theorem d_EM_coordinatorsUp_21 : decode b_EM_coordinatorsUp 21 = .ok (.goto 4, 3) := by decide +kernel
theorem d_EM_coordinatorsUp_24 : decode b_EM_coordinatorsUp 24 = .ok (.iload_n 1, 1) := by decide +kernel
theorem d_EM_coordinatorsUp_25 : decode b_EM_coordinatorsUp 25 = .ok (.istore_n 1, 1) := by decide +kernel
theorem d_EM_coordinatorsUp_26 : decode b_EM_coordinatorsUp 26 = .ok (.iinc 2 1, 3) := by decide +kernel
theorem d_EM_coordinatorsUp_29 : decode b_EM_coordinatorsUp 29 = .ok (.goto (-25), 3) := by decide +kernel
theorem d_EM_coordinatorsUp_32 : decode b_EM_coordinatorsUp 32 = .ok (.iload_n 1, 1) := by decide +kernel
theorem d_EM_coordinatorsUp_33 : decode b_EM_coordinatorsUp 33 = .ok (.ireturn, 1) := by decide +kernel
theorem d_EM_greatest_0 : decode b_EM_greatest 0 = .ok (.iconst 0, 1) := by decide +kernel
theorem d_EM_greatest_1 : decode b_EM_greatest 1 = .ok (.istore_n 1, 1) := by decide +kernel
theorem d_EM_greatest_2 : decode b_EM_greatest 2 = .ok (.iconst 0, 1) := by decide +kernel
theorem d_EM_greatest_3 : decode b_EM_greatest 3 = .ok (.istore_n 2, 1) := by decide +kernel
theorem d_EM_greatest_4 : decode b_EM_greatest 4 = .ok (.iload_n 2, 1) := by decide +kernel
theorem d_EM_greatest_5 : decode b_EM_greatest 5 = .ok (.iconst 3, 1) := by decide +kernel
theorem d_EM_greatest_6 : decode b_EM_greatest 6 = .ok (.if_icmp .ge 39, 3) := by decide +kernel
theorem d_EM_greatest_9 : decode b_EM_greatest 9 = .ok (.aload_n 0, 1) := by decide +kernel
theorem d_EM_greatest_10 : decode b_EM_greatest 10 = .ok (.getfield 13, 3) := by decide +kernel
theorem d_EM_greatest_13 : decode b_EM_greatest 13 = .ok (.iload_n 2, 1) := by decide +kernel
theorem d_EM_greatest_14 : decode b_EM_greatest 14 = .ok (.baload, 1) := by decide +kernel
theorem d_EM_greatest_15 : decode b_EM_greatest 15 = .ok (.ifCond .eq 22, 3) := by decide +kernel
theorem d_EM_greatest_18 : decode b_EM_greatest 18 = .ok (.aload_n 0, 1) := by decide +kernel
theorem d_EM_greatest_19 : decode b_EM_greatest 19 = .ok (.getfield 7, 3) := by decide +kernel
theorem d_EM_greatest_22 : decode b_EM_greatest 22 = .ok (.iload_n 2, 1) := by decide +kernel
theorem d_EM_greatest_23 : decode b_EM_greatest 23 = .ok (.iaload, 1) := by decide +kernel
theorem d_EM_greatest_24 : decode b_EM_greatest 24 = .ok (.iload_n 1, 1) := by decide +kernel
theorem d_EM_greatest_25 : decode b_EM_greatest 25 = .ok (.if_icmp .le 12, 3) := by decide +kernel
theorem d_EM_greatest_28 : decode b_EM_greatest 28 = .ok (.aload_n 0, 1) := by decide +kernel
theorem d_EM_greatest_29 : decode b_EM_greatest 29 = .ok (.getfield 7, 3) := by decide +kernel
theorem d_EM_greatest_32 : decode b_EM_greatest 32 = .ok (.iload_n 2, 1) := by decide +kernel
theorem d_EM_greatest_33 : decode b_EM_greatest 33 = .ok (.iaload, 1) := by decide +kernel
theorem d_EM_greatest_34 : decode b_EM_greatest 34 = .ok (.goto 4, 3) := by decide +kernel
theorem d_EM_greatest_37 : decode b_EM_greatest 37 = .ok (.iload_n 1, 1) := by decide +kernel
theorem d_EM_greatest_38 : decode b_EM_greatest 38 = .ok (.istore_n 1, 1) := by decide +kernel
theorem d_EM_greatest_39 : decode b_EM_greatest 39 = .ok (.iinc 2 1, 3) := by decide +kernel
theorem d_EM_greatest_42 : decode b_EM_greatest 42 = .ok (.goto (-38), 3) := by decide +kernel
theorem d_EM_greatest_45 : decode b_EM_greatest 45 = .ok (.iload_n 1, 1) := by decide +kernel
theorem d_EM_greatest_46 : decode b_EM_greatest 46 = .ok (.ireturn, 1) := by decide +kernel
theorem d_EM_find_0 : decode b_EM_find 0 = .ok (.iload_n 1, 1) := by decide +kernel
theorem d_EM_find_1 : decode b_EM_find 1 = .ok (.invokestatic 235, 3) := by decide +kernel
theorem d_EM_find_4 : decode b_EM_find 4 = .ok (.ifCond .eq 11, 3) := by decide +kernel
theorem d_EM_find_7 : decode b_EM_find 7 = .ok (.aload_n 0, 1) := by decide +kernel
theorem d_EM_find_8 : decode b_EM_find 8 = .ok (.invokevirtual 238, 3) := by decide +kernel
theorem d_EM_find_11 : decode b_EM_find 11 = .ok (.iconst 2, 1) := by decide +kernel
theorem d_EM_find_12 : decode b_EM_find 12 = .ok (.if_icmp .ge 5, 3) := by decide +kernel
theorem d_EM_find_15 : decode b_EM_find 15 = .ok (.iconst (-1), 1) := by decide +kernel
theorem d_EM_find_16 : decode b_EM_find 16 = .ok (.ireturn, 1) := by decide +kernel
theorem d_EM_find_17 : decode b_EM_find 17 = .ok (.aload_n 0, 1) := by decide +kernel
theorem d_EM_find_18 : decode b_EM_find 18 = .ok (.getfield 125, 3) := by decide +kernel
theorem d_EM_find_21 : decode b_EM_find 21 = .ok (.iload_n 1, 1) := by decide +kernel
theorem d_EM_find_22 : decode b_EM_find 22 = .ok (.aload_n 0, 1) := by decide +kernel
theorem d_EM_find_23 : decode b_EM_find 23 = .ok (.invokevirtual 242, 3) := by decide +kernel
theorem d_EM_find_26 : decode b_EM_find 26 = .ok (.iastore, 1) := by decide +kernel
theorem d_EM_find_27 : decode b_EM_find 27 = .ok (.aload_n 0, 1) := by decide +kernel
theorem d_EM_find_28 : decode b_EM_find 28 = .ok (.getfield 125, 3) := by decide +kernel
theorem d_EM_find_31 : decode b_EM_find 31 = .ok (.iload_n 1, 1) := by decide +kernel
theorem d_EM_find_32 : decode b_EM_find 32 = .ok (.iaload, 1) := by decide +kernel
theorem d_EM_find_33 : decode b_EM_find 33 = .ok (.ireturn, 1) := by decide +kernel
theorem d_EM_begin_0 : decode b_EM_begin 0 = .ok (.iload_n 1, 1) := by decide +kernel
theorem d_EM_begin_1 : decode b_EM_begin 1 = .ok (.invokestatic 235, 3) := by decide +kernel
theorem d_EM_begin_4 : decode b_EM_begin 4 = .ok (.ifCond .eq 23, 3) := by decide +kernel
theorem d_EM_begin_7 : decode b_EM_begin 7 = .ok (.aload_n 0, 1) := by decide +kernel
theorem d_EM_begin_8 : decode b_EM_begin 8 = .ok (.getfield 131, 3) := by decide +kernel
theorem d_EM_begin_11 : decode b_EM_begin 11 = .ok (.iload_n 1, 1) := by decide +kernel
theorem d_EM_begin_12 : decode b_EM_begin 12 = .ok (.iaload, 1) := by decide +kernel
theorem d_EM_begin_13 : decode b_EM_begin 13 = .ok (.iconst 1, 1) := by decide +kernel
theorem d_EM_begin_14 : decode b_EM_begin 14 = .ok (.if_icmp .lt 15, 3) := by decide +kernel
theorem d_EM_begin_17 : decode b_EM_begin 17 = .ok (.aload_n 0, 1) := by decide +kernel
theorem d_EM_begin_18 : decode b_EM_begin 18 = .ok (.getfield 131, 3) := by decide +kernel
theorem d_EM_begin_21 : decode b_EM_begin 21 = .ok (.iload_n 1, 1) := by decide +kernel
theorem d_EM_begin_22 : decode b_EM_begin 22 = .ok (.iaload, 1) := by decide +kernel
theorem d_EM_begin_23 : decode b_EM_begin 23 = .ok (.iconst 3, 1) := by decide +kernel
theorem d_EM_begin_24 : decode b_EM_begin 24 = .ok (.if_icmp .gt 5, 3) := by decide +kernel
theorem d_EM_begin_27 : decode b_EM_begin 27 = .ok (.iconst 0, 1) := by decide +kernel
theorem d_EM_begin_28 : decode b_EM_begin 28 = .ok (.ireturn, 1) := by decide +kernel
theorem d_EM_begin_29 : decode b_EM_begin 29 = .ok (.aload_n 0, 1) := by decide +kernel
theorem d_EM_begin_30 : decode b_EM_begin 30 = .ok (.getfield 128, 3) := by decide +kernel
theorem d_EM_begin_33 : decode b_EM_begin 33 = .ok (.iload_n 1, 1) := by decide +kernel
theorem d_EM_begin_34 : decode b_EM_begin 34 = .ok (.dup2, 1) := by decide +kernel
theorem d_EM_begin_35 : decode b_EM_begin 35 = .ok (.iaload, 1) := by decide +kernel
theorem d_EM_begin_36 : decode b_EM_begin 36 = .ok (.iconst 1, 1) := by decide +kernel
theorem d_EM_begin_37 : decode b_EM_begin 37 = .ok (.iadd, 1) := by decide +kernel
theorem d_EM_begin_38 : decode b_EM_begin 38 = .ok (.iastore, 1) := by decide +kernel
theorem d_EM_begin_39 : decode b_EM_begin 39 = .ok (.aload_n 0, 1) := by decide +kernel
theorem d_EM_begin_40 : decode b_EM_begin 40 = .ok (.getfield 137, 3) := by decide +kernel
theorem d_EM_begin_43 : decode b_EM_begin 43 = .ok (.iload_n 1, 1) := by decide +kernel
theorem d_EM_begin_44 : decode b_EM_begin 44 = .ok (.aload_n 0, 1) := by decide +kernel
theorem d_EM_begin_45 : decode b_EM_begin 45 = .ok (.getfield 125, 3) := by decide +kernel
theorem d_EM_begin_48 : decode b_EM_begin 48 = .ok (.iload_n 1, 1) := by decide +kernel
theorem d_EM_begin_49 : decode b_EM_begin 49 = .ok (.iaload, 1) := by decide +kernel
theorem d_EM_begin_50 : decode b_EM_begin 50 = .ok (.iastore, 1) := by decide +kernel
theorem d_EM_begin_51 : decode b_EM_begin 51 = .ok (.aload_n 0, 1) := by decide +kernel
theorem d_EM_begin_52 : decode b_EM_begin 52 = .ok (.getfield 131, 3) := by decide +kernel
theorem d_EM_begin_55 : decode b_EM_begin 55 = .ok (.iload_n 1, 1) := by decide +kernel
theorem d_EM_begin_56 : decode b_EM_begin 56 = .ok (.iconst 1, 1) := by decide +kernel
theorem d_EM_begin_57 : decode b_EM_begin 57 = .ok (.iastore, 1) := by decide +kernel
theorem d_EM_begin_58 : decode b_EM_begin 58 = .ok (.aload_n 0, 1) := by decide +kernel
theorem d_EM_begin_59 : decode b_EM_begin 59 = .ok (.getfield 134, 3) := by decide +kernel
theorem d_EM_begin_62 : decode b_EM_begin 62 = .ok (.iload_n 1, 1) := by decide +kernel
theorem d_EM_begin_63 : decode b_EM_begin 63 = .ok (.iconst 0, 1) := by decide +kernel
theorem d_EM_begin_64 : decode b_EM_begin 64 = .ok (.iastore, 1) := by decide +kernel
theorem d_EM_begin_65 : decode b_EM_begin 65 = .ok (.aload_n 0, 1) := by decide +kernel
theorem d_EM_begin_66 : decode b_EM_begin 66 = .ok (.getfield 140, 3) := by decide +kernel
theorem d_EM_begin_69 : decode b_EM_begin 69 = .ok (.iload_n 1, 1) := by decide +kernel
theorem d_EM_begin_70 : decode b_EM_begin 70 = .ok (.iconst 0, 1) := by decide +kernel
theorem d_EM_begin_71 : decode b_EM_begin 71 = .ok (.iastore, 1) := by decide +kernel
theorem d_EM_begin_72 : decode b_EM_begin 72 = .ok (.aload_n 0, 1) := by decide +kernel
theorem d_EM_begin_73 : decode b_EM_begin 73 = .ok (.getfield 143, 3) := by decide +kernel
theorem d_EM_begin_76 : decode b_EM_begin 76 = .ok (.iload_n 1, 1) := by decide +kernel
theorem d_EM_begin_77 : decode b_EM_begin 77 = .ok (.iconst 0, 1) := by decide +kernel
theorem d_EM_begin_78 : decode b_EM_begin 78 = .ok (.iastore, 1) := by decide +kernel
theorem d_EM_begin_79 : decode b_EM_begin 79 = .ok (.aload_n 0, 1) := by decide +kernel
theorem d_EM_begin_80 : decode b_EM_begin 80 = .ok (.getfield 149, 3) := by decide +kernel
theorem d_EM_begin_83 : decode b_EM_begin 83 = .ok (.iload_n 1, 1) := by decide +kernel
theorem d_EM_begin_84 : decode b_EM_begin 84 = .ok (.iconst 0, 1) := by decide +kernel
theorem d_EM_begin_85 : decode b_EM_begin 85 = .ok (.iastore, 1) := by decide +kernel
theorem d_EM_begin_86 : decode b_EM_begin 86 = .ok (.aload_n 0, 1) := by decide +kernel
theorem d_EM_begin_87 : decode b_EM_begin 87 = .ok (.iconst 1, 1) := by decide +kernel
theorem d_EM_begin_88 : decode b_EM_begin 88 = .ok (.iload_n 1, 1) := by decide +kernel
theorem d_EM_begin_89 : decode b_EM_begin 89 = .ok (.aload_n 0, 1) := by decide +kernel
theorem d_EM_begin_90 : decode b_EM_begin 90 = .ok (.getfield 125, 3) := by decide +kernel
theorem d_EM_begin_93 : decode b_EM_begin 93 = .ok (.iload_n 1, 1) := by decide +kernel
theorem d_EM_begin_94 : decode b_EM_begin 94 = .ok (.iaload, 1) := by decide +kernel
theorem d_EM_begin_95 : decode b_EM_begin 95 = .ok (.iconst 0, 1) := by decide +kernel
theorem d_EM_begin_96 : decode b_EM_begin 96 = .ok (.aload_n 0, 1) := by decide +kernel
theorem d_EM_begin_97 : decode b_EM_begin 97 = .ok (.getfield 128, 3) := by decide +kernel
theorem d_EM_begin_100 : decode b_EM_begin 100 = .ok (.iload_n 1, 1) := by decide +kernel
theorem d_EM_begin_101 : decode b_EM_begin 101 = .ok (.iaload, 1) := by decide +kernel
theorem d_EM_begin_102 : decode b_EM_begin 102 = .ok (.invokevirtual 193, 3) := by decide +kernel
theorem d_EM_begin_105 : decode b_EM_begin 105 = .ok (.pop, 1) := by decide +kernel
theorem d_EM_begin_106 : decode b_EM_begin 106 = .ok (.iconst 1, 1) := by decide +kernel
theorem d_EM_begin_107 : decode b_EM_begin 107 = .ok (.ireturn, 1) := by decide +kernel
theorem d_EM_reading_0 : decode b_EM_reading 0 = .ok (.iload_n 1, 1) := by decide +kernel
theorem d_EM_reading_1 : decode b_EM_reading 1 = .ok (.iconst 4, 1) := by decide +kernel
theorem d_EM_reading_2 : decode b_EM_reading 2 = .ok (.idiv, 1) := by decide +kernel
theorem d_EM_reading_3 : decode b_EM_reading 3 = .ok (.istore_n 3, 1) := by decide +kernel
theorem d_EM_reading_4 : decode b_EM_reading 4 = .ok (.aload_n 0, 1) := by decide +kernel
theorem d_EM_reading_5 : decode b_EM_reading 5 = .ok (.getfield 134, 3) := by decide +kernel
theorem d_EM_reading_8 : decode b_EM_reading 8 = .ok (.iload_n 2, 1) := by decide +kernel
theorem d_EM_reading_9 : decode b_EM_reading 9 = .ok (.iaload, 1) := by decide +kernel
theorem d_EM_reading_10 : decode b_EM_reading 10 = .ok (.istore 4, 2) := by decide +kernel
theorem d_EM_reading_12 : decode b_EM_reading 12 = .ok (.aload_n 0, 1) := by decide +kernel
theorem d_EM_reading_13 : decode b_EM_reading 13 = .ok (.getfield 44, 3) := by decide +kernel
theorem d_EM_reading_16 : decode b_EM_reading 16 = .ok (.iload_n 3, 1) := by decide +kernel
theorem d_EM_reading_17 : decode b_EM_reading 17 = .ok (.baload, 1) := by decide +kernel
theorem d_EM_reading_18 : decode b_EM_reading 18 = .ok (.ifCond .ne 7, 3) := by decide +kernel
theorem d_EM_reading_21 : decode b_EM_reading 21 = .ok (.ldc2_w 245, 3) := by decide +kernel
theorem d_EM_reading_24 : decode b_EM_reading 24 = .ok (.lreturn, 1) := by decide +kernel
theorem d_EM_reading_25 : decode b_EM_reading 25 = .ok (.aload_n 0, 1) := by decide +kernel
theorem d_EM_reading_26 : decode b_EM_reading 26 = .ok (.getfield 47, 3) := by decide +kernel
theorem d_EM_reading_29 : decode b_EM_reading 29 = .ok (.iload_n 3, 1) := by decide +kernel
theorem d_EM_reading_30 : decode b_EM_reading 30 = .ok (.iaload, 1) := by decide +kernel
theorem d_EM_reading_31 : decode b_EM_reading 31 = .ok (.iload 4, 2) := by decide +kernel
theorem d_EM_reading_33 : decode b_EM_reading 33 = .ok (.if_icmp .lt 18, 3) := by decide +kernel
theorem d_EM_reading_36 : decode b_EM_reading 36 = .ok (.aload_n 0, 1) := by decide +kernel
theorem d_EM_reading_37 : decode b_EM_reading 37 = .ok (.getfield 41, 3) := by decide +kernel
theorem d_EM_reading_40 : decode b_EM_reading 40 = .ok (.iload_n 3, 1) := by decide +kernel
theorem d_EM_reading_41 : decode b_EM_reading 41 = .ok (.iaload, 1) := by decide +kernel
theorem d_EM_reading_42 : decode b_EM_reading 42 = .ok (.aload_n 0, 1) := by decide +kernel
theorem d_EM_reading_43 : decode b_EM_reading 43 = .ok (.getfield 137, 3) := by decide +kernel
theorem d_EM_reading_46 : decode b_EM_reading 46 = .ok (.iload_n 2, 1) := by decide +kernel
theorem d_EM_reading_47 : decode b_EM_reading 47 = .ok (.iaload, 1) := by decide +kernel
theorem d_EM_reading_48 : decode b_EM_reading 48 = .ok (.if_icmp .ge 7, 3) := by decide +kernel
theorem d_EM_reading_51 : decode b_EM_reading 51 = .ok (.ldc2_w 247, 3) := by decide +kernel
theorem d_EM_reading_54 : decode b_EM_reading 54 = .ok (.lreturn, 1) := by decide +kernel
theorem d_EM_reading_55 : decode b_EM_reading 55 = .ok (.iload 4, 2) := by decide +kernel
theorem d_EM_reading_57 : decode b_EM_reading 57 = .ok (.aload_n 0, 1) := by decide +kernel
theorem d_EM_reading_58 : decode b_EM_reading 58 = .ok (.getfield 47, 3) := by decide +kernel
theorem d_EM_reading_61 : decode b_EM_reading 61 = .ok (.iload_n 3, 1) := by decide +kernel
theorem d_EM_reading_62 : decode b_EM_reading 62 = .ok (.iaload, 1) := by decide +kernel
theorem d_EM_reading_63 : decode b_EM_reading 63 = .ok (.bipush 12, 2) := by decide +kernel
theorem d_EM_reading_65 : decode b_EM_reading 65 = .ok (.isub, 1) := by decide +kernel
theorem d_EM_reading_66 : decode b_EM_reading 66 = .ok (.if_icmp .ge 7, 3) := by decide +kernel
theorem d_EM_reading_69 : decode b_EM_reading 69 = .ok (.ldc2_w 249, 3) := by decide +kernel
theorem d_EM_reading_72 : decode b_EM_reading 72 = .ok (.lreturn, 1) := by decide +kernel
theorem d_EM_reading_73 : decode b_EM_reading 73 = .ok (.iconst 0, 1) := by decide +kernel
theorem d_EM_reading_74 : decode b_EM_reading 74 = .ok (.istore 5, 2) := by decide +kernel
theorem d_EM_reading_76 : decode b_EM_reading 76 = .ok (.sipush 128, 3) := by decide +kernel
theorem d_EM_reading_79 : decode b_EM_reading 79 = .ok (.iload_n 3, 1) := by decide +kernel
theorem d_EM_reading_80 : decode b_EM_reading 80 = .ok (.imul, 1) := by decide +kernel
theorem d_EM_reading_81 : decode b_EM_reading 81 = .ok (.istore 6, 2) := by decide +kernel
theorem d_EM_reading_83 : decode b_EM_reading 83 = .ok (.iload 6, 2) := by decide +kernel
theorem d_EM_reading_85 : decode b_EM_reading 85 = .ok (.sipush 128, 3) := by decide +kernel
theorem d_EM_reading_88 : decode b_EM_reading 88 = .ok (.iload_n 3, 1) := by decide +kernel
theorem d_EM_reading_89 : decode b_EM_reading 89 = .ok (.imul, 1) := by decide +kernel
theorem d_EM_reading_90 : decode b_EM_reading 90 = .ok (.aload_n 0, 1) := by decide +kernel
theorem d_EM_reading_91 : decode b_EM_reading 91 = .ok (.getfield 50, 3) := by decide +kernel
theorem d_EM_reading_94 : decode b_EM_reading 94 = .ok (.iload_n 3, 1) := by decide +kernel
theorem d_EM_reading_95 : decode b_EM_reading 95 = .ok (.iaload, 1) := by decide +kernel
theorem d_EM_reading_96 : decode b_EM_reading 96 = .ok (.iadd, 1) := by decide +kernel
theorem d_EM_reading_97 : decode b_EM_reading 97 = .ok (.if_icmp .ge 50, 3) := by decide +kernel
theorem d_EM_reading_100 : decode b_EM_reading 100 = .ok (.aload_n 0, 1) := by decide +kernel
theorem d_EM_reading_101 : decode b_EM_reading 101 = .ok (.getfield 53, 3) := by decide +kernel
theorem d_EM_reading_104 : decode b_EM_reading 104 = .ok (.iload 6, 2) := by decide +kernel
theorem d_EM_reading_106 : decode b_EM_reading 106 = .ok (.iaload, 1) := by decide +kernel
theorem d_EM_reading_107 : decode b_EM_reading 107 = .ok (.iload 4, 2) := by decide +kernel
theorem d_EM_reading_109 : decode b_EM_reading 109 = .ok (.if_icmp .gt 32, 3) := by decide +kernel
theorem d_EM_reading_112 : decode b_EM_reading 112 = .ok (.aload_n 0, 1) := by decide +kernel
theorem d_EM_reading_113 : decode b_EM_reading 113 = .ok (.getfield 56, 3) := by decide +kernel
theorem d_EM_reading_116 : decode b_EM_reading 116 = .ok (.iload 6, 2) := by decide +kernel
theorem d_EM_reading_118 : decode b_EM_reading 118 = .ok (.iaload, 1) := by decide +kernel
theorem d_EM_reading_119 : decode b_EM_reading 119 = .ok (.iload_n 1, 1) := by decide +kernel
theorem d_EM_reading_120 : decode b_EM_reading 120 = .ok (.ishr, 1) := by decide +kernel
theorem d_EM_reading_121 : decode b_EM_reading 121 = .ok (.iconst 1, 1) := by decide +kernel
theorem d_EM_reading_122 : decode b_EM_reading 122 = .ok (.iand, 1) := by decide +kernel
theorem d_EM_reading_123 : decode b_EM_reading 123 = .ok (.iconst 1, 1) := by decide +kernel
theorem d_EM_reading_124 : decode b_EM_reading 124 = .ok (.if_icmp .ne 17, 3) := by decide +kernel
theorem d_EM_reading_127 : decode b_EM_reading 127 = .ok (.aload_n 0, 1) := by decide +kernel
theorem d_EM_reading_128 : decode b_EM_reading 128 = .ok (.getfield 59, 3) := by decide +kernel
theorem d_EM_reading_131 : decode b_EM_reading 131 = .ok (.bipush 8, 2) := by decide +kernel
theorem d_EM_reading_133 : decode b_EM_reading 133 = .ok (.iload 6, 2) := by decide +kernel
theorem d_EM_reading_135 : decode b_EM_reading 135 = .ok (.imul, 1) := by decide +kernel
theorem d_EM_reading_136 : decode b_EM_reading 136 = .ok (.iload_n 1, 1) := by decide +kernel
theorem d_EM_reading_137 : decode b_EM_reading 137 = .ok (.iadd, 1) := by decide +kernel
theorem d_EM_reading_138 : decode b_EM_reading 138 = .ok (.iaload, 1) := by decide +kernel
theorem d_EM_reading_139 : decode b_EM_reading 139 = .ok (.istore 5, 2) := by decide +kernel
theorem d_EM_reading_141 : decode b_EM_reading 141 = .ok (.iinc 6 1, 3) := by decide +kernel
theorem d_EM_reading_144 : decode b_EM_reading 144 = .ok (.goto (-61), 3) := by decide +kernel
theorem d_EM_reading_147 : decode b_EM_reading 147 = .ok (.iload 5, 2) := by decide +kernel
theorem d_EM_reading_149 : decode b_EM_reading 149 = .ok (.i2l, 1) := by decide +kernel
theorem d_EM_reading_150 : decode b_EM_reading 150 = .ok (.lreturn, 1) := by decide +kernel
