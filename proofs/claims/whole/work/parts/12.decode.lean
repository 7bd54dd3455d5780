theorem d_Line_init_0 : decode b_Line_init 0 = .ok (.aload_n 0, 1) := by decide +kernel
theorem d_Line_init_1 : decode b_Line_init 1 = .ok (.invokespecial 3, 3) := by decide +kernel
theorem d_Line_init_4 : decode b_Line_init 4 = .ok (.aload_n 0, 1) := by decide +kernel
theorem d_Line_init_5 : decode b_Line_init 5 = .ok (.bipush 25, 2) := by decide +kernel
theorem d_Line_init_7 : decode b_Line_init 7 = .ok (.anewarray 9, 3) := by decide +kernel
theorem d_Line_init_10 : decode b_Line_init 10 = .ok (.putfield 11, 3) := by decide +kernel
theorem d_Line_init_13 : decode b_Line_init 13 = .ok (.aload_n 0, 1) := by decide +kernel
theorem d_Line_init_14 : decode b_Line_init 14 = .ok (.new 9, 3) := by decide +kernel
theorem d_Line_init_17 : decode b_Line_init 17 = .ok (.dup, 1) := by decide +kernel
theorem d_Line_init_18 : decode b_Line_init 18 = .ok (.invokespecial 17, 3) := by decide +kernel
theorem d_Line_init_21 : decode b_Line_init 21 = .ok (.putfield 18, 3) := by decide +kernel
theorem d_Line_init_24 : decode b_Line_init 24 = .ok (.iconst 0, 1) := by decide +kernel
theorem d_Line_init_25 : decode b_Line_init 25 = .ok (.istore_n 1, 1) := by decide +kernel
theorem d_Line_init_26 : decode b_Line_init 26 = .ok (.iload_n 1, 1) := by decide +kernel
theorem d_Line_init_27 : decode b_Line_init 27 = .ok (.bipush 24, 2) := by decide +kernel
theorem d_Line_init_29 : decode b_Line_init 29 = .ok (.if_icmp .gt 22, 3) := by decide +kernel
theorem d_Line_init_32 : decode b_Line_init 32 = .ok (.aload_n 0, 1) := by decide +kernel
theorem d_Line_init_33 : decode b_Line_init 33 = .ok (.getfield 11, 3) := by decide +kernel
theorem d_Line_init_36 : decode b_Line_init 36 = .ok (.iload_n 1, 1) := by decide +kernel
theorem d_Line_init_37 : decode b_Line_init 37 = .ok (.new 9, 3) := by decide +kernel
theorem d_Line_init_40 : decode b_Line_init 40 = .ok (.dup, 1) := by decide +kernel
theorem d_Line_init_41 : decode b_Line_init 41 = .ok (.invokespecial 17, 3) := by decide +kernel
theorem d_Line_init_44 : decode b_Line_init 44 = .ok (.aastore, 1) := by decide +kernel
theorem d_Line_init_45 : decode b_Line_init 45 = .ok (.iinc 1 1, 3) := by decide +kernel
theorem d_Line_init_48 : decode b_Line_init 48 = .ok (.goto (-22), 3) := by decide +kernel
theorem d_Line_init_51 : decode b_Line_init 51 = .ok (.return_, 1) := by decide +kernel
