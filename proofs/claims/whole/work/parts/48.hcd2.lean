theorem d_tr_springs_0 : decode c_tr_springs 0 = .ok (.aload_n 0, 1) := by decide +kernel
theorem d_tr_springs_1 : decode c_tr_springs 1 = .ok (.iload_n 1, 1) := by decide +kernel
theorem d_tr_springs_2 : decode c_tr_springs 2 = .ok (.putfield 7, 3) := by decide +kernel
theorem d_tr_springs_5 : decode c_tr_springs 5 = .ok (.aload_n 0, 1) := by decide +kernel
theorem d_tr_springs_6 : decode c_tr_springs 6 = .ok (.iload_n 2, 1) := by decide +kernel
theorem d_tr_springs_7 : decode c_tr_springs 7 = .ok (.putfield 13, 3) := by decide +kernel
theorem d_tr_springs_10 : decode c_tr_springs 10 = .ok (.iconst 0, 1) := by decide +kernel
theorem d_tr_springs_11 : decode c_tr_springs 11 = .ok (.ireturn, 1) := by decide +kernel
theorem d_in_lowestFreeHandle_0 : decode c_in_lowestFreeHandle 0 = .ok (.iconst 0, 1) := by decide +kernel
theorem d_in_lowestFreeHandle_1 : decode c_in_lowestFreeHandle 1 = .ok (.istore_n 1, 1) := by decide +kernel
theorem d_in_lowestFreeHandle_2 : decode c_in_lowestFreeHandle 2 = .ok (.iload_n 1, 1) := by decide +kernel
theorem d_in_lowestFreeHandle_3 : decode c_in_lowestFreeHandle 3 = .ok (.bipush 16, 2) := by decide +kernel
theorem d_in_lowestFreeHandle_5 : decode c_in_lowestFreeHandle 5 = .ok (.if_icmp .ge 28, 3) := by decide +kernel
theorem d_in_lowestFreeHandle_8 : decode c_in_lowestFreeHandle 8 = .ok (.aload_n 0, 1) := by decide +kernel
theorem d_in_lowestFreeHandle_9 : decode c_in_lowestFreeHandle 9 = .ok (.getfield 17, 3) := by decide +kernel
theorem d_in_lowestFreeHandle_12 : decode c_in_lowestFreeHandle 12 = .ok (.iload_n 1, 1) := by decide +kernel
theorem d_in_lowestFreeHandle_13 : decode c_in_lowestFreeHandle 13 = .ok (.aaload, 1) := by decide +kernel
theorem d_in_lowestFreeHandle_14 : decode c_in_lowestFreeHandle 14 = .ok (.getfield 33, 3) := by decide +kernel
theorem d_in_lowestFreeHandle_17 : decode c_in_lowestFreeHandle 17 = .ok (.getstatic 45, 3) := by decide +kernel
theorem d_in_lowestFreeHandle_20 : decode c_in_lowestFreeHandle 20 = .ok (.if_acmp .ne 7, 3) := by decide +kernel
theorem d_in_lowestFreeHandle_23 : decode c_in_lowestFreeHandle 23 = .ok (.iload_n 1, 1) := by decide +kernel
theorem d_in_lowestFreeHandle_24 : decode c_in_lowestFreeHandle 24 = .ok (.iconst 1, 1) := by decide +kernel
theorem d_in_lowestFreeHandle_25 : decode c_in_lowestFreeHandle 25 = .ok (.iadd, 1) := by decide +kernel
theorem d_in_lowestFreeHandle_26 : decode c_in_lowestFreeHandle 26 = .ok (.ireturn, 1) := by decide +kernel
theorem d_in_lowestFreeHandle_27 : decode c_in_lowestFreeHandle 27 = .ok (.iinc 1 1, 3) := by decide +kernel
theorem d_in_lowestFreeHandle_30 : decode c_in_lowestFreeHandle 30 = .ok (.goto (-28), 3) := by decide +kernel
theorem d_in_lowestFreeHandle_33 : decode c_in_lowestFreeHandle 33 = .ok (.iconst (-1), 1) := by decide +kernel
theorem d_in_lowestFreeHandle_34 : decode c_in_lowestFreeHandle 34 = .ok (.ireturn, 1) := by decide +kernel
theorem d_in_handlesInUse_0 : decode c_in_handlesInUse 0 = .ok (.iconst 0, 1) := by decide +kernel
theorem d_in_handlesInUse_1 : decode c_in_handlesInUse 1 = .ok (.istore_n 1, 1) := by decide +kernel
theorem d_in_handlesInUse_2 : decode c_in_handlesInUse 2 = .ok (.iconst 0, 1) := by decide +kernel
theorem d_in_handlesInUse_3 : decode c_in_handlesInUse 3 = .ok (.istore_n 2, 1) := by decide +kernel
theorem d_in_handlesInUse_4 : decode c_in_handlesInUse 4 = .ok (.iload_n 2, 1) := by decide +kernel
theorem d_in_handlesInUse_5 : decode c_in_handlesInUse 5 = .ok (.bipush 16, 2) := by decide +kernel
theorem d_in_handlesInUse_7 : decode c_in_handlesInUse 7 = .ok (.if_icmp .ge 27, 3) := by decide +kernel
theorem d_in_handlesInUse_10 : decode c_in_handlesInUse 10 = .ok (.aload_n 0, 1) := by decide +kernel
theorem d_in_handlesInUse_11 : decode c_in_handlesInUse 11 = .ok (.getfield 17, 3) := by decide +kernel
theorem d_in_handlesInUse_14 : decode c_in_handlesInUse 14 = .ok (.iload_n 2, 1) := by decide +kernel
theorem d_in_handlesInUse_15 : decode c_in_handlesInUse 15 = .ok (.aaload, 1) := by decide +kernel
theorem d_in_handlesInUse_16 : decode c_in_handlesInUse 16 = .ok (.getfield 33, 3) := by decide +kernel
theorem d_in_handlesInUse_19 : decode c_in_handlesInUse 19 = .ok (.getstatic 45, 3) := by decide +kernel
theorem d_in_handlesInUse_22 : decode c_in_handlesInUse 22 = .ok (.if_acmp .eq 6, 3) := by decide +kernel
theorem d_in_handlesInUse_25 : decode c_in_handlesInUse 25 = .ok (.iinc 1 1, 3) := by decide +kernel
theorem d_in_handlesInUse_28 : decode c_in_handlesInUse 28 = .ok (.iinc 2 1, 3) := by decide +kernel
theorem d_in_handlesInUse_31 : decode c_in_handlesInUse 31 = .ok (.goto (-27), 3) := by decide +kernel
theorem d_in_handlesInUse_34 : decode c_in_handlesInUse 34 = .ok (.iload_n 1, 1) := by decide +kernel
theorem d_in_handlesInUse_35 : decode c_in_handlesInUse 35 = .ok (.ireturn, 1) := by decide +kernel
