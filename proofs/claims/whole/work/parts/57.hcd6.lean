theorem d_ha_endLoan_0 : decode c_ha_endLoan 0 = .ok (.aload_n 0, 1) := by decide +kernel
theorem d_ha_endLoan_1 : decode c_ha_endLoan 1 = .ok (.getstatic 21, 3) := by decide +kernel
theorem d_ha_endLoan_4 : decode c_ha_endLoan 4 = .ok (.putfield 27, 3) := by decide +kernel
theorem d_ha_endLoan_7 : decode c_ha_endLoan 7 = .ok (.aload_n 0, 1) := by decide +kernel
theorem d_ha_endLoan_8 : decode c_ha_endLoan 8 = .ok (.getfield 30, 3) := by decide +kernel
theorem d_ha_endLoan_11 : decode c_ha_endLoan 11 = .ok (.ifnull 16, 3) := by decide +kernel
theorem d_ha_endLoan_14 : decode c_ha_endLoan 14 = .ok (.aload_n 0, 1) := by decide +kernel
theorem d_ha_endLoan_15 : decode c_ha_endLoan 15 = .ok (.getfield 30, 3) := by decide +kernel
theorem d_ha_endLoan_18 : decode c_ha_endLoan 18 = .ok (.dup, 1) := by decide +kernel
theorem d_ha_endLoan_19 : decode c_ha_endLoan 19 = .ok (.getfield 18, 3) := by decide +kernel
theorem d_ha_endLoan_22 : decode c_ha_endLoan 22 = .ok (.iconst 1, 1) := by decide +kernel
theorem d_ha_endLoan_23 : decode c_ha_endLoan 23 = .ok (.isub, 1) := by decide +kernel
theorem d_ha_endLoan_24 : decode c_ha_endLoan 24 = .ok (.putfield 18, 3) := by decide +kernel
theorem d_ha_endLoan_27 : decode c_ha_endLoan 27 = .ok (.return_, 1) := by decide +kernel
theorem d_in_changeHoldings_0 : decode c_in_changeHoldings 0 = .ok (.iconst 0, 1) := by decide +kernel
theorem d_in_changeHoldings_1 : decode c_in_changeHoldings 1 = .ok (.istore_n 3, 1) := by decide +kernel
theorem d_in_changeHoldings_2 : decode c_in_changeHoldings 2 = .ok (.iload_n 3, 1) := by decide +kernel
theorem d_in_changeHoldings_3 : decode c_in_changeHoldings 3 = .ok (.bipush 16, 2) := by decide +kernel
theorem d_in_changeHoldings_5 : decode c_in_changeHoldings 5 = .ok (.if_icmp .ge 32, 3) := by decide +kernel
theorem d_in_changeHoldings_8 : decode c_in_changeHoldings 8 = .ok (.aload_n 0, 1) := by decide +kernel
theorem d_in_changeHoldings_9 : decode c_in_changeHoldings 9 = .ok (.getfield 17, 3) := by decide +kernel
theorem d_in_changeHoldings_12 : decode c_in_changeHoldings 12 = .ok (.iload_n 3, 1) := by decide +kernel
theorem d_in_changeHoldings_13 : decode c_in_changeHoldings 13 = .ok (.aaload, 1) := by decide +kernel
theorem d_in_changeHoldings_14 : decode c_in_changeHoldings 14 = .ok (.getfield 33, 3) := by decide +kernel
theorem d_in_changeHoldings_17 : decode c_in_changeHoldings 17 = .ok (.aload_n 1, 1) := by decide +kernel
theorem d_in_changeHoldings_18 : decode c_in_changeHoldings 18 = .ok (.if_acmp .ne 13, 3) := by decide +kernel
theorem d_in_changeHoldings_21 : decode c_in_changeHoldings 21 = .ok (.aload_n 0, 1) := by decide +kernel
theorem d_in_changeHoldings_22 : decode c_in_changeHoldings 22 = .ok (.getfield 17, 3) := by decide +kernel
theorem d_in_changeHoldings_25 : decode c_in_changeHoldings 25 = .ok (.iload_n 3, 1) := by decide +kernel
theorem d_in_changeHoldings_26 : decode c_in_changeHoldings 26 = .ok (.aaload, 1) := by decide +kernel
theorem d_in_changeHoldings_27 : decode c_in_changeHoldings 27 = .ok (.aload_n 2, 1) := by decide +kernel
theorem d_in_changeHoldings_28 : decode c_in_changeHoldings 28 = .ok (.putfield 33, 3) := by decide +kernel
theorem d_in_changeHoldings_31 : decode c_in_changeHoldings 31 = .ok (.iinc 3 1, 3) := by decide +kernel
theorem d_in_changeHoldings_34 : decode c_in_changeHoldings 34 = .ok (.goto (-32), 3) := by decide +kernel
theorem d_in_changeHoldings_37 : decode c_in_changeHoldings 37 = .ok (.return_, 1) := by decide +kernel
