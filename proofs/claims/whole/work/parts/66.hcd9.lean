theorem d_hc_numberBehind_0 : decode c_hc_numberBehind 0 = .ok (.aload_n 0, 1) := by decide +kernel
theorem d_hc_numberBehind_1 : decode c_hc_numberBehind 1 = .ok (.aload_n 1, 1) := by decide +kernel
theorem d_hc_numberBehind_2 : decode c_hc_numberBehind 2 = .ok (.invokevirtual 312, 3) := by decide +kernel
theorem d_hc_numberBehind_5 : decode c_hc_numberBehind 5 = .ok (.ifCond .ne 6, 3) := by decide +kernel
theorem d_hc_numberBehind_8 : decode c_hc_numberBehind 8 = .ok (.iload_n 2, 1) := by decide +kernel
theorem d_hc_numberBehind_9 : decode c_hc_numberBehind 9 = .ok (.ineg, 1) := by decide +kernel
theorem d_hc_numberBehind_10 : decode c_hc_numberBehind 10 = .ok (.ireturn, 1) := by decide +kernel
theorem d_hc_numberBehind_11 : decode c_hc_numberBehind 11 = .ok (.aload_n 0, 1) := by decide +kernel
theorem d_hc_numberBehind_12 : decode c_hc_numberBehind 12 = .ok (.getfield 123, 3) := by decide +kernel
theorem d_hc_numberBehind_15 : decode c_hc_numberBehind 15 = .ok (.aload_n 1, 1) := by decide +kernel
theorem d_hc_numberBehind_16 : decode c_hc_numberBehind 16 = .ok (.getfield 123, 3) := by decide +kernel
theorem d_hc_numberBehind_19 : decode c_hc_numberBehind 19 = .ok (.invokestatic 316, 3) := by decide +kernel
theorem d_hc_numberBehind_22 : decode c_hc_numberBehind 22 = .ok (.istore_n 3, 1) := by decide +kernel
theorem d_hc_numberBehind_23 : decode c_hc_numberBehind 23 = .ok (.iload_n 2, 1) := by decide +kernel
theorem d_hc_numberBehind_24 : decode c_hc_numberBehind 24 = .ok (.iconst 1, 1) := by decide +kernel
theorem d_hc_numberBehind_25 : decode c_hc_numberBehind 25 = .ok (.iadd, 1) := by decide +kernel
theorem d_hc_numberBehind_26 : decode c_hc_numberBehind 26 = .ok (.istore 4, 2) := by decide +kernel
theorem d_hc_numberBehind_28 : decode c_hc_numberBehind 28 = .ok (.iconst 0, 1) := by decide +kernel
theorem d_hc_numberBehind_29 : decode c_hc_numberBehind 29 = .ok (.istore 5, 2) := by decide +kernel
theorem d_hc_numberBehind_31 : decode c_hc_numberBehind 31 = .ok (.iload 5, 2) := by decide +kernel
theorem d_hc_numberBehind_33 : decode c_hc_numberBehind 33 = .ok (.iload_n 3, 1) := by decide +kernel
theorem d_hc_numberBehind_34 : decode c_hc_numberBehind 34 = .ok (.if_icmp .ge 35, 3) := by decide +kernel
theorem d_hc_numberBehind_37 : decode c_hc_numberBehind 37 = .ok (.iload 4, 2) := by decide +kernel
theorem d_hc_numberBehind_39 : decode c_hc_numberBehind 39 = .ok (.ifCond .le 30, 3) := by decide +kernel
theorem d_hc_numberBehind_42 : decode c_hc_numberBehind 42 = .ok (.aload_n 0, 1) := by decide +kernel
theorem d_hc_numberBehind_43 : decode c_hc_numberBehind 43 = .ok (.getfield 322, 3) := by decide +kernel
theorem d_hc_numberBehind_46 : decode c_hc_numberBehind 46 = .ok (.iload 5, 2) := by decide +kernel
theorem d_hc_numberBehind_48 : decode c_hc_numberBehind 48 = .ok (.aaload, 1) := by decide +kernel
theorem d_hc_numberBehind_49 : decode c_hc_numberBehind 49 = .ok (.aload_n 1, 1) := by decide +kernel
theorem d_hc_numberBehind_50 : decode c_hc_numberBehind 50 = .ok (.getfield 322, 3) := by decide +kernel
theorem d_hc_numberBehind_53 : decode c_hc_numberBehind 53 = .ok (.iload 5, 2) := by decide +kernel
theorem d_hc_numberBehind_55 : decode c_hc_numberBehind 55 = .ok (.aaload, 1) := by decide +kernel
theorem d_hc_numberBehind_56 : decode c_hc_numberBehind 56 = .ok (.iload 4, 2) := by decide +kernel
theorem d_hc_numberBehind_58 : decode c_hc_numberBehind 58 = .ok (.invokestatic 308, 3) := by decide +kernel
theorem d_hc_numberBehind_61 : decode c_hc_numberBehind 61 = .ok (.istore 4, 2) := by decide +kernel
theorem d_hc_numberBehind_63 : decode c_hc_numberBehind 63 = .ok (.iinc 5 1, 3) := by decide +kernel
theorem d_hc_numberBehind_66 : decode c_hc_numberBehind 66 = .ok (.goto (-35), 3) := by decide +kernel
theorem d_hc_numberBehind_69 : decode c_hc_numberBehind 69 = .ok (.iload 4, 2) := by decide +kernel
theorem d_hc_numberBehind_71 : decode c_hc_numberBehind 71 = .ok (.ireturn, 1) := by decide +kernel
theorem d_hc_firstMisfit_0 : decode c_hc_firstMisfit 0 = .ok (.aload_n 0, 1) := by decide +kernel
theorem d_hc_firstMisfit_1 : decode c_hc_firstMisfit 1 = .ok (.aload_n 1, 1) := by decide +kernel
theorem d_hc_firstMisfit_2 : decode c_hc_firstMisfit 2 = .ok (.iconst 1, 1) := by decide +kernel
theorem d_hc_firstMisfit_3 : decode c_hc_firstMisfit 3 = .ok (.invokestatic 308, 3) := by decide +kernel
theorem d_hc_firstMisfit_6 : decode c_hc_firstMisfit 6 = .ok (.istore_n 2, 1) := by decide +kernel
theorem d_hc_firstMisfit_7 : decode c_hc_firstMisfit 7 = .ok (.iload_n 2, 1) := by decide +kernel
theorem d_hc_firstMisfit_8 : decode c_hc_firstMisfit 8 = .ok (.ifCond .ge 8, 3) := by decide +kernel
theorem d_hc_firstMisfit_11 : decode c_hc_firstMisfit 11 = .ok (.iload_n 2, 1) := by decide +kernel
theorem d_hc_firstMisfit_12 : decode c_hc_firstMisfit 12 = .ok (.ineg, 1) := by decide +kernel
theorem d_hc_firstMisfit_13 : decode c_hc_firstMisfit 13 = .ok (.goto 4, 3) := by decide +kernel
theorem d_hc_firstMisfit_16 : decode c_hc_firstMisfit 16 = .ok (.iconst 0, 1) := by decide +kernel
theorem d_hc_firstMisfit_17 : decode c_hc_firstMisfit 17 = .ok (.ireturn, 1) := by decide +kernel
theorem d_in_endLoansToIt_0 : decode c_in_endLoansToIt 0 = .ok (.iconst 0, 1) := by decide +kernel
theorem d_in_endLoansToIt_1 : decode c_in_endLoansToIt 1 = .ok (.istore_n 1, 1) := by decide +kernel
theorem d_in_endLoansToIt_2 : decode c_in_endLoansToIt 2 = .ok (.iload_n 1, 1) := by decide +kernel
theorem d_in_endLoansToIt_3 : decode c_in_endLoansToIt 3 = .ok (.bipush 16, 2) := by decide +kernel
theorem d_in_endLoansToIt_5 : decode c_in_endLoansToIt 5 = .ok (.if_icmp .ge 33, 3) := by decide +kernel
theorem d_in_endLoansToIt_8 : decode c_in_endLoansToIt 8 = .ok (.aload_n 0, 1) := by decide +kernel
theorem d_in_endLoansToIt_9 : decode c_in_endLoansToIt 9 = .ok (.getfield 17, 3) := by decide +kernel
theorem d_in_endLoansToIt_12 : decode c_in_endLoansToIt 12 = .ok (.iload_n 1, 1) := by decide +kernel
theorem d_in_endLoansToIt_13 : decode c_in_endLoansToIt 13 = .ok (.aaload, 1) := by decide +kernel
theorem d_in_endLoansToIt_14 : decode c_in_endLoansToIt 14 = .ok (.getfield 33, 3) := by decide +kernel
theorem d_in_endLoansToIt_17 : decode c_in_endLoansToIt 17 = .ok (.getstatic 42, 3) := by decide +kernel
theorem d_in_endLoansToIt_20 : decode c_in_endLoansToIt 20 = .ok (.if_acmp .ne 12, 3) := by decide +kernel
theorem d_in_endLoansToIt_23 : decode c_in_endLoansToIt 23 = .ok (.aload_n 0, 1) := by decide +kernel
theorem d_in_endLoansToIt_24 : decode c_in_endLoansToIt 24 = .ok (.getfield 17, 3) := by decide +kernel
theorem d_in_endLoansToIt_27 : decode c_in_endLoansToIt 27 = .ok (.iload_n 1, 1) := by decide +kernel
theorem d_in_endLoansToIt_28 : decode c_in_endLoansToIt 28 = .ok (.aaload, 1) := by decide +kernel
theorem d_in_endLoansToIt_29 : decode c_in_endLoansToIt 29 = .ok (.invokevirtual 48, 3) := by decide +kernel
theorem d_in_endLoansToIt_32 : decode c_in_endLoansToIt 32 = .ok (.iinc 1 1, 3) := by decide +kernel
theorem d_in_endLoansToIt_35 : decode c_in_endLoansToIt 35 = .ok (.goto (-33), 3) := by decide +kernel
theorem d_in_endLoansToIt_38 : decode c_in_endLoansToIt 38 = .ok (.return_, 1) := by decide +kernel
theorem d_in_undoLoansAndPassing_0 : decode c_in_undoLoansAndPassing 0 = .ok (.aload_n 0, 1) := by decide +kernel
theorem d_in_undoLoansAndPassing_1 : decode c_in_undoLoansAndPassing 1 = .ok (.getstatic 42, 3) := by decide +kernel
theorem d_in_undoLoansAndPassing_4 : decode c_in_undoLoansAndPassing 4 = .ok (.getstatic 45, 3) := by decide +kernel
theorem d_in_undoLoansAndPassing_7 : decode c_in_undoLoansAndPassing 7 = .ok (.invokevirtual 51, 3) := by decide +kernel
theorem d_in_undoLoansAndPassing_10 : decode c_in_undoLoansAndPassing 10 = .ok (.aload_n 0, 1) := by decide +kernel
theorem d_in_undoLoansAndPassing_11 : decode c_in_undoLoansAndPassing 11 = .ok (.getstatic 55, 3) := by decide +kernel
theorem d_in_undoLoansAndPassing_14 : decode c_in_undoLoansAndPassing 14 = .ok (.getstatic 45, 3) := by decide +kernel
theorem d_in_undoLoansAndPassing_17 : decode c_in_undoLoansAndPassing 17 = .ok (.invokevirtual 51, 3) := by decide +kernel
theorem d_in_undoLoansAndPassing_20 : decode c_in_undoLoansAndPassing 20 = .ok (.aload_n 0, 1) := by decide +kernel
theorem d_in_undoLoansAndPassing_21 : decode c_in_undoLoansAndPassing 21 = .ok (.getstatic 58, 3) := by decide +kernel
theorem d_in_undoLoansAndPassing_24 : decode c_in_undoLoansAndPassing 24 = .ok (.getstatic 37, 3) := by decide +kernel
theorem d_in_undoLoansAndPassing_27 : decode c_in_undoLoansAndPassing 27 = .ok (.invokevirtual 51, 3) := by decide +kernel
theorem d_in_undoLoansAndPassing_30 : decode c_in_undoLoansAndPassing 30 = .ok (.iconst 0, 1) := by decide +kernel
theorem d_in_undoLoansAndPassing_31 : decode c_in_undoLoansAndPassing 31 = .ok (.istore_n 1, 1) := by decide +kernel
theorem d_in_undoLoansAndPassing_32 : decode c_in_undoLoansAndPassing 32 = .ok (.iload_n 1, 1) := by decide +kernel
theorem d_in_undoLoansAndPassing_33 : decode c_in_undoLoansAndPassing 33 = .ok (.bipush 16, 2) := by decide +kernel
theorem d_in_undoLoansAndPassing_35 : decode c_in_undoLoansAndPassing 35 = .ok (.if_icmp .ge 19, 3) := by decide +kernel
theorem d_in_undoLoansAndPassing_38 : decode c_in_undoLoansAndPassing 38 = .ok (.aload_n 0, 1) := by decide +kernel
theorem d_in_undoLoansAndPassing_39 : decode c_in_undoLoansAndPassing 39 = .ok (.getfield 17, 3) := by decide +kernel
theorem d_in_undoLoansAndPassing_42 : decode c_in_undoLoansAndPassing 42 = .ok (.iload_n 1, 1) := by decide +kernel
theorem d_in_undoLoansAndPassing_43 : decode c_in_undoLoansAndPassing 43 = .ok (.aaload, 1) := by decide +kernel
theorem d_in_undoLoansAndPassing_44 : decode c_in_undoLoansAndPassing 44 = .ok (.iconst 0, 1) := by decide +kernel
theorem d_in_undoLoansAndPassing_45 : decode c_in_undoLoansAndPassing 45 = .ok (.putfield 61, 3) := by decide +kernel
theorem d_in_undoLoansAndPassing_48 : decode c_in_undoLoansAndPassing 48 = .ok (.iinc 1 1, 3) := by decide +kernel
theorem d_in_undoLoansAndPassing_51 : decode c_in_undoLoansAndPassing 51 = .ok (.goto (-19), 3) := by decide +kernel
theorem d_in_undoLoansAndPassing_54 : decode c_in_undoLoansAndPassing 54 = .ok (.return_, 1) := by decide +kernel
theorem d_hc_destroy_0 : decode c_hc_destroy 0 = .ok (.aload_n 1, 1) := by decide +kernel
theorem d_hc_destroy_1 : decode c_hc_destroy 1 = .ok (.getstatic 325, 3) := by decide +kernel
theorem d_hc_destroy_4 : decode c_hc_destroy 4 = .ok (.putfield 242, 3) := by decide +kernel
theorem d_hc_destroy_7 : decode c_hc_destroy 7 = .ok (.aload_n 0, 1) := by decide +kernel
theorem d_hc_destroy_8 : decode c_hc_destroy 8 = .ok (.getfield 59, 3) := by decide +kernel
theorem d_hc_destroy_11 : decode c_hc_destroy 11 = .ok (.aload_n 1, 1) := by decide +kernel
theorem d_hc_destroy_12 : decode c_hc_destroy 12 = .ok (.getfield 257, 3) := by decide +kernel
theorem d_hc_destroy_15 : decode c_hc_destroy 15 = .ok (.dup2, 1) := by decide +kernel
theorem d_hc_destroy_16 : decode c_hc_destroy 16 = .ok (.iaload, 1) := by decide +kernel
theorem d_hc_destroy_17 : decode c_hc_destroy 17 = .ok (.iconst 1, 1) := by decide +kernel
theorem d_hc_destroy_18 : decode c_hc_destroy 18 = .ok (.isub, 1) := by decide +kernel
theorem d_hc_destroy_19 : decode c_hc_destroy 19 = .ok (.iastore, 1) := by decide +kernel
theorem d_hc_destroy_20 : decode c_hc_destroy 20 = .ok (.aload_n 0, 1) := by decide +kernel
theorem d_hc_destroy_21 : decode c_hc_destroy 21 = .ok (.getfield 62, 3) := by decide +kernel
theorem d_hc_destroy_24 : decode c_hc_destroy 24 = .ok (.aload_n 1, 1) := by decide +kernel
theorem d_hc_destroy_25 : decode c_hc_destroy 25 = .ok (.getfield 257, 3) := by decide +kernel
theorem d_hc_destroy_28 : decode c_hc_destroy 28 = .ok (.dup2, 1) := by decide +kernel
theorem d_hc_destroy_29 : decode c_hc_destroy 29 = .ok (.iaload, 1) := by decide +kernel
theorem d_hc_destroy_30 : decode c_hc_destroy 30 = .ok (.iconst 1, 1) := by decide +kernel
theorem d_hc_destroy_31 : decode c_hc_destroy 31 = .ok (.iadd, 1) := by decide +kernel
theorem d_hc_destroy_32 : decode c_hc_destroy 32 = .ok (.iastore, 1) := by decide +kernel
theorem d_hc_destroy_33 : decode c_hc_destroy 33 = .ok (.return_, 1) := by decide +kernel
theorem d_wt_placeAndCount_0 : decode c_wt_placeAndCount 0 = .ok (.iload_n 1, 1) := by decide +kernel
theorem d_wt_placeAndCount_1 : decode c_wt_placeAndCount 1 = .ok (.i2l, 1) := by decide +kernel
theorem d_wt_placeAndCount_2 : decode c_wt_placeAndCount 2 = .ok (.bipush 16, 2) := by decide +kernel
theorem d_wt_placeAndCount_4 : decode c_wt_placeAndCount 4 = .ok (.lshl, 1) := by decide +kernel
theorem d_wt_placeAndCount_5 : decode c_wt_placeAndCount 5 = .ok (.iload_n 0, 1) := by decide +kernel
theorem d_wt_placeAndCount_6 : decode c_wt_placeAndCount 6 = .ok (.i2l, 1) := by decide +kernel
theorem d_wt_placeAndCount_7 : decode c_wt_placeAndCount 7 = .ok (.lor, 1) := by decide +kernel
theorem d_wt_placeAndCount_8 : decode c_wt_placeAndCount 8 = .ok (.lreturn, 1) := by decide +kernel
