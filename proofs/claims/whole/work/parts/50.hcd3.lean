theorem d_in_handleInUse_0 : decode c_in_handleInUse 0 = .ok (.iload_n 1, 1) := by decide +kernel
theorem d_in_handleInUse_1 : decode c_in_handleInUse 1 = .ok (.iconst 1, 1) := by decide +kernel
theorem d_in_handleInUse_2 : decode c_in_handleInUse 2 = .ok (.if_icmp .lt 9, 3) := by decide +kernel
theorem d_in_handleInUse_5 : decode c_in_handleInUse 5 = .ok (.iload_n 1, 1) := by decide +kernel
theorem d_in_handleInUse_6 : decode c_in_handleInUse 6 = .ok (.bipush 16, 2) := by decide +kernel
theorem d_in_handleInUse_8 : decode c_in_handleInUse 8 = .ok (.if_icmp .le 5, 3) := by decide +kernel
theorem d_in_handleInUse_11 : decode c_in_handleInUse 11 = .ok (.aconst_null, 1) := by decide +kernel
theorem d_in_handleInUse_12 : decode c_in_handleInUse 12 = .ok (.areturn, 1) := by decide +kernel
theorem d_in_handleInUse_13 : decode c_in_handleInUse 13 = .ok (.aload_n 0, 1) := by decide +kernel
theorem d_in_handleInUse_14 : decode c_in_handleInUse 14 = .ok (.getfield 17, 3) := by decide +kernel
theorem d_in_handleInUse_17 : decode c_in_handleInUse 17 = .ok (.iload_n 1, 1) := by decide +kernel
theorem d_in_handleInUse_18 : decode c_in_handleInUse 18 = .ok (.iconst 1, 1) := by decide +kernel
theorem d_in_handleInUse_19 : decode c_in_handleInUse 19 = .ok (.isub, 1) := by decide +kernel
theorem d_in_handleInUse_20 : decode c_in_handleInUse 20 = .ok (.aaload, 1) := by decide +kernel
theorem d_in_handleInUse_21 : decode c_in_handleInUse 21 = .ok (.astore_n 2, 1) := by decide +kernel
theorem d_in_handleInUse_22 : decode c_in_handleInUse 22 = .ok (.aload_n 2, 1) := by decide +kernel
theorem d_in_handleInUse_23 : decode c_in_handleInUse 23 = .ok (.getfield 33, 3) := by decide +kernel
theorem d_in_handleInUse_26 : decode c_in_handleInUse 26 = .ok (.getstatic 37, 3) := by decide +kernel
theorem d_in_handleInUse_29 : decode c_in_handleInUse 29 = .ok (.if_acmp .eq 13, 3) := by decide +kernel
theorem d_in_handleInUse_32 : decode c_in_handleInUse 32 = .ok (.aload_n 2, 1) := by decide +kernel
theorem d_in_handleInUse_33 : decode c_in_handleInUse 33 = .ok (.getfield 33, 3) := by decide +kernel
theorem d_in_handleInUse_36 : decode c_in_handleInUse 36 = .ok (.getstatic 42, 3) := by decide +kernel
theorem d_in_handleInUse_39 : decode c_in_handleInUse 39 = .ok (.if_acmp .ne 7, 3) := by decide +kernel
theorem d_in_handleInUse_42 : decode c_in_handleInUse 42 = .ok (.aload_n 2, 1) := by decide +kernel
theorem d_in_handleInUse_43 : decode c_in_handleInUse 43 = .ok (.goto 4, 3) := by decide +kernel
theorem d_in_handleInUse_46 : decode c_in_handleInUse 46 = .ok (.aconst_null, 1) := by decide +kernel
theorem d_in_handleInUse_47 : decode c_in_handleInUse 47 = .ok (.areturn, 1) := by decide +kernel
