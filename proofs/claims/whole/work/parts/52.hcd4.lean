theorem d_hc_push_0 : decode c_hc_push 0 = .ok (.aload_n 0, 1) := by decide +kernel
theorem d_hc_push_1 : decode c_hc_push 1 = .ok (.getfield 43, 3) := by decide +kernel
theorem d_hc_push_4 : decode c_hc_push 4 = .ok (.aload_n 0, 1) := by decide +kernel
theorem d_hc_push_5 : decode c_hc_push 5 = .ok (.getfield 53, 3) := by decide +kernel
theorem d_hc_push_8 : decode c_hc_push 8 = .ok (.iload_n 1, 1) := by decide +kernel
theorem d_hc_push_9 : decode c_hc_push 9 = .ok (.iastore, 1) := by decide +kernel
theorem d_hc_push_10 : decode c_hc_push 10 = .ok (.aload_n 0, 1) := by decide +kernel
theorem d_hc_push_11 : decode c_hc_push 11 = .ok (.getfield 47, 3) := by decide +kernel
theorem d_hc_push_14 : decode c_hc_push 14 = .ok (.aload_n 0, 1) := by decide +kernel
theorem d_hc_push_15 : decode c_hc_push 15 = .ok (.getfield 53, 3) := by decide +kernel
theorem d_hc_push_18 : decode c_hc_push 18 = .ok (.iload_n 2, 1) := by decide +kernel
theorem d_hc_push_19 : decode c_hc_push 19 = .ok (.iastore, 1) := by decide +kernel
theorem d_hc_push_20 : decode c_hc_push 20 = .ok (.aload_n 0, 1) := by decide +kernel
theorem d_hc_push_21 : decode c_hc_push 21 = .ok (.getfield 50, 3) := by decide +kernel
theorem d_hc_push_24 : decode c_hc_push 24 = .ok (.aload_n 0, 1) := by decide +kernel
theorem d_hc_push_25 : decode c_hc_push 25 = .ok (.getfield 53, 3) := by decide +kernel
theorem d_hc_push_28 : decode c_hc_push 28 = .ok (.iload_n 3, 1) := by decide +kernel
theorem d_hc_push_29 : decode c_hc_push 29 = .ok (.iastore, 1) := by decide +kernel
theorem d_hc_push_30 : decode c_hc_push 30 = .ok (.aload_n 0, 1) := by decide +kernel
theorem d_hc_push_31 : decode c_hc_push 31 = .ok (.dup, 1) := by decide +kernel
theorem d_hc_push_32 : decode c_hc_push 32 = .ok (.getfield 53, 3) := by decide +kernel
theorem d_hc_push_35 : decode c_hc_push 35 = .ok (.iconst 1, 1) := by decide +kernel
theorem d_hc_push_36 : decode c_hc_push 36 = .ok (.iadd, 1) := by decide +kernel
theorem d_hc_push_37 : decode c_hc_push 37 = .ok (.putfield 53, 3) := by decide +kernel
theorem d_hc_push_40 : decode c_hc_push 40 = .ok (.aload_n 0, 1) := by decide +kernel
theorem d_hc_push_41 : decode c_hc_push 41 = .ok (.getfield 27, 3) := by decide +kernel
theorem d_hc_push_44 : decode c_hc_push 44 = .ok (.iload_n 1, 1) := by decide +kernel
theorem d_hc_push_45 : decode c_hc_push 45 = .ok (.aaload, 1) := by decide +kernel
theorem d_hc_push_46 : decode c_hc_push 46 = .ok (.iconst 1, 1) := by decide +kernel
theorem d_hc_push_47 : decode c_hc_push 47 = .ok (.putfield 182, 3) := by decide +kernel
theorem d_hc_push_50 : decode c_hc_push 50 = .ok (.return_, 1) := by decide +kernel
theorem d_hc_pop_0 : decode c_hc_pop 0 = .ok (.aload_n 0, 1) := by decide +kernel
theorem d_hc_pop_1 : decode c_hc_pop 1 = .ok (.getfield 27, 3) := by decide +kernel
theorem d_hc_pop_4 : decode c_hc_pop 4 = .ok (.aload_n 0, 1) := by decide +kernel
theorem d_hc_pop_5 : decode c_hc_pop 5 = .ok (.invokevirtual 203, 3) := by decide +kernel
theorem d_hc_pop_8 : decode c_hc_pop 8 = .ok (.aaload, 1) := by decide +kernel
theorem d_hc_pop_9 : decode c_hc_pop 9 = .ok (.astore_n 1, 1) := by decide +kernel
theorem d_hc_pop_10 : decode c_hc_pop 10 = .ok (.aload_n 1, 1) := by decide +kernel
theorem d_hc_pop_11 : decode c_hc_pop 11 = .ok (.iconst 0, 1) := by decide +kernel
theorem d_hc_pop_12 : decode c_hc_pop 12 = .ok (.putfield 182, 3) := by decide +kernel
theorem d_hc_pop_15 : decode c_hc_pop 15 = .ok (.aload_n 1, 1) := by decide +kernel
theorem d_hc_pop_16 : decode c_hc_pop 16 = .ok (.sipush 128, 3) := by decide +kernel
theorem d_hc_pop_19 : decode c_hc_pop 19 = .ok (.putfield 297, 3) := by decide +kernel
theorem d_hc_pop_22 : decode c_hc_pop 22 = .ok (.aload_n 0, 1) := by decide +kernel
theorem d_hc_pop_23 : decode c_hc_pop 23 = .ok (.dup, 1) := by decide +kernel
theorem d_hc_pop_24 : decode c_hc_pop 24 = .ok (.getfield 53, 3) := by decide +kernel
theorem d_hc_pop_27 : decode c_hc_pop 27 = .ok (.iconst 1, 1) := by decide +kernel
theorem d_hc_pop_28 : decode c_hc_pop 28 = .ok (.isub, 1) := by decide +kernel
theorem d_hc_pop_29 : decode c_hc_pop 29 = .ok (.putfield 53, 3) := by decide +kernel
theorem d_hc_pop_32 : decode c_hc_pop 32 = .ok (.return_, 1) := by decide +kernel
theorem d_ha_use_0 : decode c_ha_use 0 = .ok (.aload_n 0, 1) := by decide +kernel
theorem d_ha_use_1 : decode c_ha_use 1 = .ok (.iload_n 1, 1) := by decide +kernel
theorem d_ha_use_2 : decode c_ha_use 2 = .ok (.putfield 9, 3) := by decide +kernel
theorem d_ha_use_5 : decode c_ha_use 5 = .ok (.aload_n 0, 1) := by decide +kernel
theorem d_ha_use_6 : decode c_ha_use 6 = .ok (.iload_n 2, 1) := by decide +kernel
theorem d_ha_use_7 : decode c_ha_use 7 = .ok (.putfield 15, 3) := by decide +kernel
theorem d_ha_use_10 : decode c_ha_use 10 = .ok (.aload_n 0, 1) := by decide +kernel
theorem d_ha_use_11 : decode c_ha_use 11 = .ok (.aload_n 3, 1) := by decide +kernel
theorem d_ha_use_12 : decode c_ha_use 12 = .ok (.putfield 27, 3) := by decide +kernel
theorem d_ha_use_15 : decode c_ha_use 15 = .ok (.aload_n 0, 1) := by decide +kernel
theorem d_ha_use_16 : decode c_ha_use 16 = .ok (.aload 4, 2) := by decide +kernel
theorem d_ha_use_18 : decode c_ha_use 18 = .ok (.putfield 30, 3) := by decide +kernel
theorem d_ha_use_21 : decode c_ha_use 21 = .ok (.aload_n 0, 1) := by decide +kernel
theorem d_ha_use_22 : decode c_ha_use 22 = .ok (.iconst 0, 1) := by decide +kernel
theorem d_ha_use_23 : decode c_ha_use 23 = .ok (.putfield 18, 3) := by decide +kernel
theorem d_ha_use_26 : decode c_ha_use 26 = .ok (.return_, 1) := by decide +kernel
