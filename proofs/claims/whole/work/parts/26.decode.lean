theorem d_Master_takeAcknowledgement_0 : decode b_Master_takeAcknowledgement 0 = .ok (.iconst 0, 1) := by decide +kernel
theorem d_Master_takeAcknowledgement_1 : decode b_Master_takeAcknowledgement 1 = .ok (.istore_n 2, 1) := by decide +kernel
theorem d_Master_takeAcknowledgement_2 : decode b_Master_takeAcknowledgement 2 = .ok (.iload_n 2, 1) := by decide +kernel
theorem d_Master_takeAcknowledgement_3 : decode b_Master_takeAcknowledgement 3 = .ok (.aload_n 0, 1) := by decide +kernel
theorem d_Master_takeAcknowledgement_4 : decode b_Master_takeAcknowledgement 4 = .ok (.getfield 49, 3) := by decide +kernel
theorem d_Master_takeAcknowledgement_7 : decode b_Master_takeAcknowledgement 7 = .ok (.if_icmp .ge 48, 3) := by decide +kernel
theorem d_Master_takeAcknowledgement_10 : decode b_Master_takeAcknowledgement 10 = .ok (.aload_n 0, 1) := by decide +kernel
theorem d_Master_takeAcknowledgement_11 : decode b_Master_takeAcknowledgement 11 = .ok (.getfield 23, 3) := by decide +kernel
theorem d_Master_takeAcknowledgement_14 : decode b_Master_takeAcknowledgement 14 = .ok (.iload_n 2, 1) := by decide +kernel
theorem d_Master_takeAcknowledgement_15 : decode b_Master_takeAcknowledgement 15 = .ok (.aaload, 1) := by decide +kernel
theorem d_Master_takeAcknowledgement_16 : decode b_Master_takeAcknowledgement 16 = .ok (.getfield 166, 3) := by decide +kernel
theorem d_Master_takeAcknowledgement_19 : decode b_Master_takeAcknowledgement 19 = .ok (.getfield 170, 3) := by decide +kernel
theorem d_Master_takeAcknowledgement_22 : decode b_Master_takeAcknowledgement 22 = .ok (.aload_n 1, 1) := by decide +kernel
theorem d_Master_takeAcknowledgement_23 : decode b_Master_takeAcknowledgement 23 = .ok (.getfield 120, 3) := by decide +kernel
theorem d_Master_takeAcknowledgement_26 : decode b_Master_takeAcknowledgement 26 = .ok (.if_icmp .ne 23, 3) := by decide +kernel
theorem d_Master_takeAcknowledgement_29 : decode b_Master_takeAcknowledgement 29 = .ok (.aload_n 0, 1) := by decide +kernel
theorem d_Master_takeAcknowledgement_30 : decode b_Master_takeAcknowledgement 30 = .ok (.getfield 23, 3) := by decide +kernel
theorem d_Master_takeAcknowledgement_33 : decode b_Master_takeAcknowledgement 33 = .ok (.iload_n 2, 1) := by decide +kernel
theorem d_Master_takeAcknowledgement_34 : decode b_Master_takeAcknowledgement 34 = .ok (.aaload, 1) := by decide +kernel
theorem d_Master_takeAcknowledgement_35 : decode b_Master_takeAcknowledgement 35 = .ok (.dup, 1) := by decide +kernel
theorem d_Master_takeAcknowledgement_36 : decode b_Master_takeAcknowledgement 36 = .ok (.getfield 163, 3) := by decide +kernel
theorem d_Master_takeAcknowledgement_39 : decode b_Master_takeAcknowledgement 39 = .ok (.iconst 1, 1) := by decide +kernel
theorem d_Master_takeAcknowledgement_40 : decode b_Master_takeAcknowledgement 40 = .ok (.aload_n 1, 1) := by decide +kernel
theorem d_Master_takeAcknowledgement_41 : decode b_Master_takeAcknowledgement 41 = .ok (.getfield 82, 3) := by decide +kernel
theorem d_Master_takeAcknowledgement_44 : decode b_Master_takeAcknowledgement 44 = .ok (.ishl, 1) := by decide +kernel
theorem d_Master_takeAcknowledgement_45 : decode b_Master_takeAcknowledgement 45 = .ok (.ior, 1) := by decide +kernel
theorem d_Master_takeAcknowledgement_46 : decode b_Master_takeAcknowledgement 46 = .ok (.putfield 163, 3) := by decide +kernel
theorem d_Master_takeAcknowledgement_49 : decode b_Master_takeAcknowledgement 49 = .ok (.iinc 2 1, 3) := by decide +kernel
theorem d_Master_takeAcknowledgement_52 : decode b_Master_takeAcknowledgement 52 = .ok (.goto (-50), 3) := by decide +kernel
theorem d_Master_takeAcknowledgement_55 : decode b_Master_takeAcknowledgement 55 = .ok (.return_, 1) := by decide +kernel
theorem d_Master_removeOldestOnWay_0 : decode b_Master_removeOldestOnWay 0 = .ok (.aload_n 0, 1) := by decide +kernel
theorem d_Master_removeOldestOnWay_1 : decode b_Master_removeOldestOnWay 1 = .ok (.dup, 1) := by decide +kernel
theorem d_Master_removeOldestOnWay_2 : decode b_Master_removeOldestOnWay 2 = .ok (.getfield 49, 3) := by decide +kernel
theorem d_Master_removeOldestOnWay_5 : decode b_Master_removeOldestOnWay 5 = .ok (.iload_n 1, 1) := by decide +kernel
theorem d_Master_removeOldestOnWay_6 : decode b_Master_removeOldestOnWay 6 = .ok (.isub, 1) := by decide +kernel
theorem d_Master_removeOldestOnWay_7 : decode b_Master_removeOldestOnWay 7 = .ok (.putfield 49, 3) := by decide +kernel
theorem d_Master_removeOldestOnWay_10 : decode b_Master_removeOldestOnWay 10 = .ok (.iconst 0, 1) := by decide +kernel
theorem d_Master_removeOldestOnWay_11 : decode b_Master_removeOldestOnWay 11 = .ok (.istore_n 2, 1) := by decide +kernel
theorem d_Master_removeOldestOnWay_12 : decode b_Master_removeOldestOnWay 12 = .ok (.iload_n 2, 1) := by decide +kernel
theorem d_Master_removeOldestOnWay_13 : decode b_Master_removeOldestOnWay 13 = .ok (.aload_n 0, 1) := by decide +kernel
theorem d_Master_removeOldestOnWay_14 : decode b_Master_removeOldestOnWay 14 = .ok (.getfield 49, 3) := by decide +kernel
theorem d_Master_removeOldestOnWay_17 : decode b_Master_removeOldestOnWay 17 = .ok (.if_icmp .ge 23, 3) := by decide +kernel
theorem d_Master_removeOldestOnWay_20 : decode b_Master_removeOldestOnWay 20 = .ok (.aload_n 0, 1) := by decide +kernel
theorem d_Master_removeOldestOnWay_21 : decode b_Master_removeOldestOnWay 21 = .ok (.getfield 23, 3) := by decide +kernel
theorem d_Master_removeOldestOnWay_24 : decode b_Master_removeOldestOnWay 24 = .ok (.iload_n 2, 1) := by decide +kernel
theorem d_Master_removeOldestOnWay_25 : decode b_Master_removeOldestOnWay 25 = .ok (.aload_n 0, 1) := by decide +kernel
theorem d_Master_removeOldestOnWay_26 : decode b_Master_removeOldestOnWay 26 = .ok (.getfield 23, 3) := by decide +kernel
theorem d_Master_removeOldestOnWay_29 : decode b_Master_removeOldestOnWay 29 = .ok (.iload_n 2, 1) := by decide +kernel
theorem d_Master_removeOldestOnWay_30 : decode b_Master_removeOldestOnWay 30 = .ok (.iload_n 1, 1) := by decide +kernel
theorem d_Master_removeOldestOnWay_31 : decode b_Master_removeOldestOnWay 31 = .ok (.iadd, 1) := by decide +kernel
theorem d_Master_removeOldestOnWay_32 : decode b_Master_removeOldestOnWay 32 = .ok (.aaload, 1) := by decide +kernel
theorem d_Master_removeOldestOnWay_33 : decode b_Master_removeOldestOnWay 33 = .ok (.aastore, 1) := by decide +kernel
theorem d_Master_removeOldestOnWay_34 : decode b_Master_removeOldestOnWay 34 = .ok (.iinc 2 1, 3) := by decide +kernel
theorem d_Master_removeOldestOnWay_37 : decode b_Master_removeOldestOnWay 37 = .ok (.goto (-25), 3) := by decide +kernel
theorem d_Master_removeOldestOnWay_40 : decode b_Master_removeOldestOnWay 40 = .ok (.return_, 1) := by decide +kernel
theorem d_Master_settle_0 : decode b_Master_settle 0 = .ok (.iconst 0, 1) := by decide +kernel
theorem d_Master_settle_1 : decode b_Master_settle 1 = .ok (.istore_n 2, 1) := by decide +kernel
theorem d_Master_settle_2 : decode b_Master_settle 2 = .ok (.iload_n 2, 1) := by decide +kernel
theorem d_Master_settle_3 : decode b_Master_settle 3 = .ok (.aload_n 0, 1) := by decide +kernel
theorem d_Master_settle_4 : decode b_Master_settle 4 = .ok (.getfield 49, 3) := by decide +kernel
theorem d_Master_settle_7 : decode b_Master_settle 7 = .ok (.if_icmp .ge 64, 3) := by decide +kernel
theorem d_Master_settle_10 : decode b_Master_settle 10 = .ok (.aload_n 0, 1) := by decide +kernel
theorem d_Master_settle_11 : decode b_Master_settle 11 = .ok (.getfield 23, 3) := by decide +kernel
theorem d_Master_settle_14 : decode b_Master_settle 14 = .ok (.iload_n 2, 1) := by decide +kernel
theorem d_Master_settle_15 : decode b_Master_settle 15 = .ok (.aaload, 1) := by decide +kernel
theorem d_Master_settle_16 : decode b_Master_settle 16 = .ok (.getfield 163, 3) := by decide +kernel
theorem d_Master_settle_19 : decode b_Master_settle 19 = .ok (.aload_n 0, 1) := by decide +kernel
theorem d_Master_settle_20 : decode b_Master_settle 20 = .ok (.getfield 31, 3) := by decide +kernel
theorem d_Master_settle_23 : decode b_Master_settle 23 = .ok (.if_icmp .ne 48, 3) := by decide +kernel
theorem d_Master_settle_26 : decode b_Master_settle 26 = .ok (.aload_n 0, 1) := by decide +kernel
theorem d_Master_settle_27 : decode b_Master_settle 27 = .ok (.getfield 23, 3) := by decide +kernel
theorem d_Master_settle_30 : decode b_Master_settle 30 = .ok (.iload_n 2, 1) := by decide +kernel
theorem d_Master_settle_31 : decode b_Master_settle 31 = .ok (.aaload, 1) := by decide +kernel
theorem d_Master_settle_32 : decode b_Master_settle 32 = .ok (.astore_n 3, 1) := by decide +kernel
theorem d_Master_settle_33 : decode b_Master_settle 33 = .ok (.aload_n 0, 1) := by decide +kernel
theorem d_Master_settle_34 : decode b_Master_settle 34 = .ok (.aload_n 3, 1) := by decide +kernel
theorem d_Master_settle_35 : decode b_Master_settle 35 = .ok (.getfield 166, 3) := by decide +kernel
theorem d_Master_settle_38 : decode b_Master_settle 38 = .ok (.getfield 170, 3) := by decide +kernel
theorem d_Master_settle_41 : decode b_Master_settle 41 = .ok (.putfield 43, 3) := by decide +kernel
theorem d_Master_settle_44 : decode b_Master_settle 44 = .ok (.aload_n 0, 1) := by decide +kernel
theorem d_Master_settle_45 : decode b_Master_settle 45 = .ok (.aload_n 3, 1) := by decide +kernel
theorem d_Master_settle_46 : decode b_Master_settle 46 = .ok (.getfield 172, 3) := by decide +kernel
theorem d_Master_settle_49 : decode b_Master_settle 49 = .ok (.aload_n 3, 1) := by decide +kernel
theorem d_Master_settle_50 : decode b_Master_settle 50 = .ok (.getfield 173, 3) := by decide +kernel
theorem d_Master_settle_53 : decode b_Master_settle 53 = .ok (.iconst 4, 1) := by decide +kernel
theorem d_Master_settle_54 : decode b_Master_settle 54 = .ok (.aload_n 1, 1) := by decide +kernel
theorem d_Master_settle_55 : decode b_Master_settle 55 = .ok (.invokevirtual 123, 3) := by decide +kernel
theorem d_Master_settle_58 : decode b_Master_settle 58 = .ok (.aload_n 0, 1) := by decide +kernel
theorem d_Master_settle_59 : decode b_Master_settle 59 = .ok (.getfield 43, 3) := by decide +kernel
theorem d_Master_settle_62 : decode b_Master_settle 62 = .ok (.putfield 120, 3) := by decide +kernel
theorem d_Master_settle_65 : decode b_Master_settle 65 = .ok (.iinc 2 1, 3) := by decide +kernel
theorem d_Master_settle_68 : decode b_Master_settle 68 = .ok (.goto (-66), 3) := by decide +kernel
theorem d_Master_settle_71 : decode b_Master_settle 71 = .ok (.aload_n 0, 1) := by decide +kernel
theorem d_Master_settle_72 : decode b_Master_settle 72 = .ok (.iload_n 2, 1) := by decide +kernel
theorem d_Master_settle_73 : decode b_Master_settle 73 = .ok (.invokevirtual 174, 3) := by decide +kernel
theorem d_Master_settle_76 : decode b_Master_settle 76 = .ok (.return_, 1) := by decide +kernel
theorem d_Master_receive_0 : decode b_Master_receive 0 = .ok (.aload_n 1, 1) := by decide +kernel
theorem d_Master_receive_1 : decode b_Master_receive 1 = .ok (.getfield 52, 3) := by decide +kernel
theorem d_Master_receive_4 : decode b_Master_receive 4 = .ok (.tableswitch 63 1 5 #[36, 63, 45, 63, 54], 36) := by decide +kernel
theorem d_Master_receive_40 : decode b_Master_receive 40 = .ok (.aload_n 0, 1) := by decide +kernel
theorem d_Master_receive_41 : decode b_Master_receive 41 = .ok (.aload_n 1, 1) := by decide +kernel
theorem d_Master_receive_42 : decode b_Master_receive 42 = .ok (.aload_n 2, 1) := by decide +kernel
theorem d_Master_receive_43 : decode b_Master_receive 43 = .ok (.invokevirtual 57, 3) := by decide +kernel
theorem d_Master_receive_46 : decode b_Master_receive 46 = .ok (.goto 31, 3) := by decide +kernel
theorem d_Master_receive_49 : decode b_Master_receive 49 = .ok (.aload_n 0, 1) := by decide +kernel
theorem d_Master_receive_50 : decode b_Master_receive 50 = .ok (.aload_n 1, 1) := by decide +kernel
theorem d_Master_receive_51 : decode b_Master_receive 51 = .ok (.aload_n 2, 1) := by decide +kernel
theorem d_Master_receive_52 : decode b_Master_receive 52 = .ok (.invokevirtual 61, 3) := by decide +kernel
theorem d_Master_receive_55 : decode b_Master_receive 55 = .ok (.goto 22, 3) := by decide +kernel
theorem d_Master_receive_58 : decode b_Master_receive 58 = .ok (.aload_n 0, 1) := by decide +kernel
theorem d_Master_receive_59 : decode b_Master_receive 59 = .ok (.aload_n 1, 1) := by decide +kernel
theorem d_Master_receive_60 : decode b_Master_receive 60 = .ok (.aload_n 2, 1) := by decide +kernel
theorem d_Master_receive_61 : decode b_Master_receive 61 = .ok (.invokevirtual 64, 3) := by decide +kernel
theorem d_Master_receive_64 : decode b_Master_receive 64 = .ok (.goto 13, 3) := by decide +kernel
theorem d_Master_receive_67 : decode b_Master_receive 67 = .ok (.aload_n 0, 1) := by decide +kernel
theorem d_Master_receive_68 : decode b_Master_receive 68 = .ok (.aload_n 1, 1) := by decide +kernel
theorem d_Master_receive_69 : decode b_Master_receive 69 = .ok (.invokevirtual 67, 3) := by decide +kernel
theorem d_Master_receive_72 : decode b_Master_receive 72 = .ok (.aload_n 0, 1) := by decide +kernel
theorem d_Master_receive_73 : decode b_Master_receive 73 = .ok (.aload_n 2, 1) := by decide +kernel
theorem d_Master_receive_74 : decode b_Master_receive 74 = .ok (.invokevirtual 71, 3) := by decide +kernel
theorem d_Master_receive_77 : decode b_Master_receive 77 = .ok (.return_, 1) := by decide +kernel
