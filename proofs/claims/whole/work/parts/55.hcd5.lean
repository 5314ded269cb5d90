theorem d_in_storeBytes_0 : decode c_in_storeBytes 0 = .ok (.iconst 0, 1) := by decide +kernel
theorem d_in_storeBytes_1 : decode c_in_storeBytes 1 = .ok (.istore 5, 2) := by decide +kernel
theorem d_in_storeBytes_3 : decode c_in_storeBytes 3 = .ok (.iload 5, 2) := by decide +kernel
theorem d_in_storeBytes_5 : decode c_in_storeBytes 5 = .ok (.iload_n 2, 1) := by decide +kernel
theorem d_in_storeBytes_6 : decode c_in_storeBytes 6 = .ok (.if_icmp .ge 40, 3) := by decide +kernel
theorem d_in_storeBytes_9 : decode c_in_storeBytes 9 = .ok (.iload_n 1, 1) := by decide +kernel
theorem d_in_storeBytes_10 : decode c_in_storeBytes 10 = .ok (.iload 5, 2) := by decide +kernel
theorem d_in_storeBytes_12 : decode c_in_storeBytes 12 = .ok (.iadd, 1) := by decide +kernel
theorem d_in_storeBytes_13 : decode c_in_storeBytes 13 = .ok (.invokestatic 29, 3) := by decide +kernel
theorem d_in_storeBytes_16 : decode c_in_storeBytes 16 = .ok (.ifCond .eq 30, 3) := by decide +kernel
theorem d_in_storeBytes_19 : decode c_in_storeBytes 19 = .ok (.aload_n 0, 1) := by decide +kernel
theorem d_in_storeBytes_20 : decode c_in_storeBytes 20 = .ok (.getfield 9, 3) := by decide +kernel
theorem d_in_storeBytes_23 : decode c_in_storeBytes 23 = .ok (.iload_n 1, 1) := by decide +kernel
theorem d_in_storeBytes_24 : decode c_in_storeBytes 24 = .ok (.iload 5, 2) := by decide +kernel
theorem d_in_storeBytes_26 : decode c_in_storeBytes 26 = .ok (.iadd, 1) := by decide +kernel
theorem d_in_storeBytes_27 : decode c_in_storeBytes 27 = .ok (.lload_n 3, 1) := by decide +kernel
theorem d_in_storeBytes_28 : decode c_in_storeBytes 28 = .ok (.bipush 8, 2) := by decide +kernel
theorem d_in_storeBytes_30 : decode c_in_storeBytes 30 = .ok (.iload 5, 2) := by decide +kernel
theorem d_in_storeBytes_32 : decode c_in_storeBytes 32 = .ok (.imul, 1) := by decide +kernel
theorem d_in_storeBytes_33 : decode c_in_storeBytes 33 = .ok (.lushr, 1) := by decide +kernel
theorem d_in_storeBytes_34 : decode c_in_storeBytes 34 = .ok (.l2i, 1) := by decide +kernel
theorem d_in_storeBytes_35 : decode c_in_storeBytes 35 = .ok (.sipush 255, 3) := by decide +kernel
theorem d_in_storeBytes_38 : decode c_in_storeBytes 38 = .ok (.iand, 1) := by decide +kernel
theorem d_in_storeBytes_39 : decode c_in_storeBytes 39 = .ok (.iastore, 1) := by decide +kernel
theorem d_in_storeBytes_40 : decode c_in_storeBytes 40 = .ok (.iinc 5 1, 3) := by decide +kernel
theorem d_in_storeBytes_43 : decode c_in_storeBytes 43 = .ok (.goto (-40), 3) := by decide +kernel
theorem d_in_storeBytes_46 : decode c_in_storeBytes 46 = .ok (.return_, 1) := by decide +kernel
