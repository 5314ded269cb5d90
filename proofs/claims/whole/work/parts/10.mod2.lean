theorem d_mo_freeHandle_0 : decode c_mo_freeHandle 0 = .ok (.iconst 0, 1) := by decide +kernel
theorem d_mo_freeHandle_1 : decode c_mo_freeHandle 1 = .ok (.istore_n 2, 1) := by decide +kernel
theorem d_mo_freeHandle_2 : decode c_mo_freeHandle 2 = .ok (.bipush 16, 2) := by decide +kernel
theorem d_mo_freeHandle_4 : decode c_mo_freeHandle 4 = .ok (.istore_n 3, 1) := by decide +kernel
theorem d_mo_freeHandle_5 : decode c_mo_freeHandle 5 = .ok (.iload_n 3, 1) := by decide +kernel
theorem d_mo_freeHandle_6 : decode c_mo_freeHandle 6 = .ok (.iconst 1, 1) := by decide +kernel
theorem d_mo_freeHandle_7 : decode c_mo_freeHandle 7 = .ok (.if_icmp .lt 29, 3) := by decide +kernel
theorem d_mo_freeHandle_10 : decode c_mo_freeHandle 10 = .ok (.aload_n 0, 1) := by decide +kernel
theorem d_mo_freeHandle_11 : decode c_mo_freeHandle 11 = .ok (.getfield 46, 3) := by decide +kernel
theorem d_mo_freeHandle_14 : decode c_mo_freeHandle 14 = .ok (.bipush 17, 2) := by decide +kernel
theorem d_mo_freeHandle_16 : decode c_mo_freeHandle 16 = .ok (.iload_n 1, 1) := by decide +kernel
theorem d_mo_freeHandle_17 : decode c_mo_freeHandle 17 = .ok (.imul, 1) := by decide +kernel
theorem d_mo_freeHandle_18 : decode c_mo_freeHandle 18 = .ok (.iload_n 3, 1) := by decide +kernel
theorem d_mo_freeHandle_19 : decode c_mo_freeHandle 19 = .ok (.iadd, 1) := by decide +kernel
theorem d_mo_freeHandle_20 : decode c_mo_freeHandle 20 = .ok (.baload, 1) := by decide +kernel
theorem d_mo_freeHandle_21 : decode c_mo_freeHandle 21 = .ok (.ifCond .eq 7, 3) := by decide +kernel
theorem d_mo_freeHandle_24 : decode c_mo_freeHandle 24 = .ok (.iload_n 2, 1) := by decide +kernel
theorem d_mo_freeHandle_25 : decode c_mo_freeHandle 25 = .ok (.goto 4, 3) := by decide +kernel
theorem d_mo_freeHandle_28 : decode c_mo_freeHandle 28 = .ok (.iload_n 3, 1) := by decide +kernel
theorem d_mo_freeHandle_29 : decode c_mo_freeHandle 29 = .ok (.istore_n 2, 1) := by decide +kernel
theorem d_mo_freeHandle_30 : decode c_mo_freeHandle 30 = .ok (.iinc 3 (-1), 3) := by decide +kernel
theorem d_mo_freeHandle_33 : decode c_mo_freeHandle 33 = .ok (.goto (-28), 3) := by decide +kernel
theorem d_mo_freeHandle_36 : decode c_mo_freeHandle 36 = .ok (.iload_n 2, 1) := by decide +kernel
theorem d_mo_freeHandle_37 : decode c_mo_freeHandle 37 = .ok (.ireturn, 1) := by decide +kernel
theorem d_mo_loans_0 : decode c_mo_loans 0 = .ok (.aload_n 0, 1) := by decide +kernel
theorem d_mo_loans_1 : decode c_mo_loans 1 = .ok (.getfield 62, 3) := by decide +kernel
theorem d_mo_loans_4 : decode c_mo_loans 4 = .ok (.iload_n 1, 1) := by decide +kernel
theorem d_mo_loans_5 : decode c_mo_loans 5 = .ok (.iaload, 1) := by decide +kernel
theorem d_mo_loans_6 : decode c_mo_loans 6 = .ok (.istore_n 2, 1) := by decide +kernel
theorem d_mo_loans_7 : decode c_mo_loans 7 = .ok (.iconst 0, 1) := by decide +kernel
theorem d_mo_loans_8 : decode c_mo_loans 8 = .ok (.istore_n 3, 1) := by decide +kernel
theorem d_mo_loans_9 : decode c_mo_loans 9 = .ok (.iload_n 3, 1) := by decide +kernel
theorem d_mo_loans_10 : decode c_mo_loans 10 = .ok (.bipush 102, 2) := by decide +kernel
theorem d_mo_loans_12 : decode c_mo_loans 12 = .ok (.if_icmp .ge 45, 3) := by decide +kernel
theorem d_mo_loans_15 : decode c_mo_loans 15 = .ok (.aload_n 0, 1) := by decide +kernel
theorem d_mo_loans_16 : decode c_mo_loans 16 = .ok (.getfield 46, 3) := by decide +kernel
theorem d_mo_loans_19 : decode c_mo_loans 19 = .ok (.iload_n 3, 1) := by decide +kernel
theorem d_mo_loans_20 : decode c_mo_loans 20 = .ok (.baload, 1) := by decide +kernel
theorem d_mo_loans_21 : decode c_mo_loans 21 = .ok (.ifCond .eq 28, 3) := by decide +kernel
theorem d_mo_loans_24 : decode c_mo_loans 24 = .ok (.aload_n 0, 1) := by decide +kernel
theorem d_mo_loans_25 : decode c_mo_loans 25 = .ok (.getfield 53, 3) := by decide +kernel
theorem d_mo_loans_28 : decode c_mo_loans 28 = .ok (.iload_n 3, 1) := by decide +kernel
theorem d_mo_loans_29 : decode c_mo_loans 29 = .ok (.baload, 1) := by decide +kernel
theorem d_mo_loans_30 : decode c_mo_loans 30 = .ok (.ifCond .ne 19, 3) := by decide +kernel
theorem d_mo_loans_33 : decode c_mo_loans 33 = .ok (.aload_n 0, 1) := by decide +kernel
theorem d_mo_loans_34 : decode c_mo_loans 34 = .ok (.getfield 56, 3) := by decide +kernel
theorem d_mo_loans_37 : decode c_mo_loans 37 = .ok (.iload_n 3, 1) := by decide +kernel
theorem d_mo_loans_38 : decode c_mo_loans 38 = .ok (.iaload, 1) := by decide +kernel
theorem d_mo_loans_39 : decode c_mo_loans 39 = .ok (.iload_n 1, 1) := by decide +kernel
theorem d_mo_loans_40 : decode c_mo_loans 40 = .ok (.if_icmp .ne 9, 3) := by decide +kernel
theorem d_mo_loans_43 : decode c_mo_loans 43 = .ok (.iload_n 2, 1) := by decide +kernel
theorem d_mo_loans_44 : decode c_mo_loans 44 = .ok (.iconst 1, 1) := by decide +kernel
theorem d_mo_loans_45 : decode c_mo_loans 45 = .ok (.iadd, 1) := by decide +kernel
theorem d_mo_loans_46 : decode c_mo_loans 46 = .ok (.goto 4, 3) := by decide +kernel
theorem d_mo_loans_49 : decode c_mo_loans 49 = .ok (.iload_n 2, 1) := by decide +kernel
theorem d_mo_loans_50 : decode c_mo_loans 50 = .ok (.istore_n 2, 1) := by decide +kernel
theorem d_mo_loans_51 : decode c_mo_loans 51 = .ok (.iinc 3 1, 3) := by decide +kernel
theorem d_mo_loans_54 : decode c_mo_loans 54 = .ok (.goto (-45), 3) := by decide +kernel
theorem d_mo_loans_57 : decode c_mo_loans 57 = .ok (.iload_n 2, 1) := by decide +kernel
theorem d_mo_loans_58 : decode c_mo_loans 58 = .ok (.ireturn, 1) := by decide +kernel
theorem d_mo_inUse_0 : decode c_mo_inUse 0 = .ok (.iconst 0, 1) := by decide +kernel
theorem d_mo_inUse_1 : decode c_mo_inUse 1 = .ok (.istore_n 2, 1) := by decide +kernel
theorem d_mo_inUse_2 : decode c_mo_inUse 2 = .ok (.iconst 1, 1) := by decide +kernel
theorem d_mo_inUse_3 : decode c_mo_inUse 3 = .ok (.istore_n 3, 1) := by decide +kernel
theorem d_mo_inUse_4 : decode c_mo_inUse 4 = .ok (.iload_n 3, 1) := by decide +kernel
theorem d_mo_inUse_5 : decode c_mo_inUse 5 = .ok (.bipush 16, 2) := by decide +kernel
theorem d_mo_inUse_7 : decode c_mo_inUse 7 = .ok (.if_icmp .gt 31, 3) := by decide +kernel
theorem d_mo_inUse_10 : decode c_mo_inUse 10 = .ok (.aload_n 0, 1) := by decide +kernel
theorem d_mo_inUse_11 : decode c_mo_inUse 11 = .ok (.getfield 46, 3) := by decide +kernel
theorem d_mo_inUse_14 : decode c_mo_inUse 14 = .ok (.bipush 17, 2) := by decide +kernel
theorem d_mo_inUse_16 : decode c_mo_inUse 16 = .ok (.iload_n 1, 1) := by decide +kernel
theorem d_mo_inUse_17 : decode c_mo_inUse 17 = .ok (.imul, 1) := by decide +kernel
theorem d_mo_inUse_18 : decode c_mo_inUse 18 = .ok (.iload_n 3, 1) := by decide +kernel
theorem d_mo_inUse_19 : decode c_mo_inUse 19 = .ok (.iadd, 1) := by decide +kernel
theorem d_mo_inUse_20 : decode c_mo_inUse 20 = .ok (.baload, 1) := by decide +kernel
theorem d_mo_inUse_21 : decode c_mo_inUse 21 = .ok (.ifCond .eq 9, 3) := by decide +kernel
theorem d_mo_inUse_24 : decode c_mo_inUse 24 = .ok (.iload_n 2, 1) := by decide +kernel
theorem d_mo_inUse_25 : decode c_mo_inUse 25 = .ok (.iconst 1, 1) := by decide +kernel
theorem d_mo_inUse_26 : decode c_mo_inUse 26 = .ok (.iadd, 1) := by decide +kernel
theorem d_mo_inUse_27 : decode c_mo_inUse 27 = .ok (.goto 4, 3) := by decide +kernel
theorem d_mo_inUse_30 : decode c_mo_inUse 30 = .ok (.iload_n 2, 1) := by decide +kernel
theorem d_mo_inUse_31 : decode c_mo_inUse 31 = .ok (.istore_n 2, 1) := by decide +kernel
theorem d_mo_inUse_32 : decode c_mo_inUse 32 = .ok (.iinc 3 1, 3) := by decide +kernel
theorem d_mo_inUse_35 : decode c_mo_inUse 35 = .ok (.goto (-31), 3) := by decide +kernel
theorem d_mo_inUse_38 : decode c_mo_inUse 38 = .ok (.iload_n 2, 1) := by decide +kernel
theorem d_mo_inUse_39 : decode c_mo_inUse 39 = .ok (.ireturn, 1) := by decide +kernel
theorem d_mo_part_0 : decode c_mo_part 0 = .ok (.aload_n 0, 1) := by decide +kernel
theorem d_mo_part_1 : decode c_mo_part 1 = .ok (.aload_n 0, 1) := by decide +kernel
theorem d_mo_part_2 : decode c_mo_part 2 = .ok (.iload_n 1, 1) := by decide +kernel
theorem d_mo_part_3 : decode c_mo_part 3 = .ok (.invokevirtual 150, 3) := by decide +kernel
theorem d_mo_part_6 : decode c_mo_part 6 = .ok (.ifCond .ne 7, 3) := by decide +kernel
theorem d_mo_part_9 : decode c_mo_part 9 = .ok (.iconst 1, 1) := by decide +kernel
theorem d_mo_part_10 : decode c_mo_part 10 = .ok (.goto 17, 3) := by decide +kernel
theorem d_mo_part_13 : decode c_mo_part 13 = .ok (.aload_n 0, 1) := by decide +kernel
theorem d_mo_part_14 : decode c_mo_part 14 = .ok (.getfield 154, 3) := by decide +kernel
theorem d_mo_part_17 : decode c_mo_part 17 = .ok (.bipush 6, 2) := by decide +kernel
theorem d_mo_part_19 : decode c_mo_part 19 = .ok (.if_icmp .ne 7, 3) := by decide +kernel
theorem d_mo_part_22 : decode c_mo_part 22 = .ok (.iconst 2, 1) := by decide +kernel
theorem d_mo_part_23 : decode c_mo_part 23 = .ok (.goto 4, 3) := by decide +kernel
theorem d_mo_part_26 : decode c_mo_part 26 = .ok (.iconst 0, 1) := by decide +kernel
theorem d_mo_part_27 : decode c_mo_part 27 = .ok (.invokevirtual 157, 3) := by decide +kernel
theorem d_mo_part_30 : decode c_mo_part 30 = .ok (.ifCond .eq 5, 3) := by decide +kernel
theorem d_mo_part_33 : decode c_mo_part 33 = .ok (.iconst 0, 1) := by decide +kernel
theorem d_mo_part_34 : decode c_mo_part 34 = .ok (.ireturn, 1) := by decide +kernel
theorem d_mo_part_35 : decode c_mo_part 35 = .ok (.aload_n 0, 1) := by decide +kernel
theorem d_mo_part_36 : decode c_mo_part 36 = .ok (.getfield 34, 3) := by decide +kernel
theorem d_mo_part_39 : decode c_mo_part 39 = .ok (.aload_n 0, 1) := by decide +kernel
theorem d_mo_part_40 : decode c_mo_part 40 = .ok (.getfield 154, 3) := by decide +kernel
theorem d_mo_part_43 : decode c_mo_part 43 = .ok (.iload_n 1, 1) := by decide +kernel
theorem d_mo_part_44 : decode c_mo_part 44 = .ok (.iastore, 1) := by decide +kernel
theorem d_mo_part_45 : decode c_mo_part 45 = .ok (.aload_n 0, 1) := by decide +kernel
theorem d_mo_part_46 : decode c_mo_part 46 = .ok (.dup, 1) := by decide +kernel
theorem d_mo_part_47 : decode c_mo_part 47 = .ok (.getfield 154, 3) := by decide +kernel
theorem d_mo_part_50 : decode c_mo_part 50 = .ok (.iconst 1, 1) := by decide +kernel
theorem d_mo_part_51 : decode c_mo_part 51 = .ok (.iadd, 1) := by decide +kernel
theorem d_mo_part_52 : decode c_mo_part 52 = .ok (.putfield 154, 3) := by decide +kernel
theorem d_mo_part_55 : decode c_mo_part 55 = .ok (.aload_n 0, 1) := by decide +kernel
theorem d_mo_part_56 : decode c_mo_part 56 = .ok (.getfield 154, 3) := by decide +kernel
theorem d_mo_part_59 : decode c_mo_part 59 = .ok (.ireturn, 1) := by decide +kernel
theorem d_mo_instance_0 : decode c_mo_instance 0 = .ok (.aload_n 0, 1) := by decide +kernel
theorem d_mo_instance_1 : decode c_mo_instance 1 = .ok (.aload_n 0, 1) := by decide +kernel
theorem d_mo_instance_2 : decode c_mo_instance 2 = .ok (.getfield 147, 3) := by decide +kernel
theorem d_mo_instance_5 : decode c_mo_instance 5 = .ok (.bipush 6, 2) := by decide +kernel
theorem d_mo_instance_7 : decode c_mo_instance 7 = .ok (.if_icmp .ne 7, 3) := by decide +kernel
theorem d_mo_instance_10 : decode c_mo_instance 10 = .ok (.iconst 1, 1) := by decide +kernel
theorem d_mo_instance_11 : decode c_mo_instance 11 = .ok (.goto 4, 3) := by decide +kernel
theorem d_mo_instance_14 : decode c_mo_instance 14 = .ok (.iconst 0, 1) := by decide +kernel
theorem d_mo_instance_15 : decode c_mo_instance 15 = .ok (.invokevirtual 157, 3) := by decide +kernel
theorem d_mo_instance_18 : decode c_mo_instance 18 = .ok (.ifCond .eq 5, 3) := by decide +kernel
theorem d_mo_instance_21 : decode c_mo_instance 21 = .ok (.iconst 0, 1) := by decide +kernel
theorem d_mo_instance_22 : decode c_mo_instance 22 = .ok (.ireturn, 1) := by decide +kernel
theorem d_mo_instance_23 : decode c_mo_instance 23 = .ok (.aload_n 0, 1) := by decide +kernel
theorem d_mo_instance_24 : decode c_mo_instance 24 = .ok (.getfield 40, 3) := by decide +kernel
theorem d_mo_instance_27 : decode c_mo_instance 27 = .ok (.aload_n 0, 1) := by decide +kernel
theorem d_mo_instance_28 : decode c_mo_instance 28 = .ok (.getfield 147, 3) := by decide +kernel
theorem d_mo_instance_31 : decode c_mo_instance 31 = .ok (.sipush 128, 3) := by decide +kernel
theorem d_mo_instance_34 : decode c_mo_instance 34 = .ok (.iastore, 1) := by decide +kernel
theorem d_mo_instance_35 : decode c_mo_instance 35 = .ok (.aload_n 0, 1) := by decide +kernel
theorem d_mo_instance_36 : decode c_mo_instance 36 = .ok (.dup, 1) := by decide +kernel
theorem d_mo_instance_37 : decode c_mo_instance 37 = .ok (.getfield 147, 3) := by decide +kernel
theorem d_mo_instance_40 : decode c_mo_instance 40 = .ok (.iconst 1, 1) := by decide +kernel
theorem d_mo_instance_41 : decode c_mo_instance 41 = .ok (.iadd, 1) := by decide +kernel
theorem d_mo_instance_42 : decode c_mo_instance 42 = .ok (.putfield 147, 3) := by decide +kernel
theorem d_mo_instance_45 : decode c_mo_instance 45 = .ok (.aload_n 0, 1) := by decide +kernel
theorem d_mo_instance_46 : decode c_mo_instance 46 = .ok (.getfield 147, 3) := by decide +kernel
theorem d_mo_instance_49 : decode c_mo_instance 49 = .ok (.iconst 1, 1) := by decide +kernel
theorem d_mo_instance_50 : decode c_mo_instance 50 = .ok (.isub, 1) := by decide +kernel
theorem d_mo_instance_51 : decode c_mo_instance 51 = .ok (.ireturn, 1) := by decide +kernel
theorem d_mo_read_0 : decode c_mo_read 0 = .ok (.aload_n 0, 1) := by decide +kernel
theorem d_mo_read_1 : decode c_mo_read 1 = .ok (.aload_n 0, 1) := by decide +kernel
theorem d_mo_read_2 : decode c_mo_read 2 = .ok (.iload_n 1, 1) := by decide +kernel
theorem d_mo_read_3 : decode c_mo_read 3 = .ok (.invokevirtual 197, 3) := by decide +kernel
theorem d_mo_read_6 : decode c_mo_read 6 = .ok (.ifCond .ne 7, 3) := by decide +kernel
theorem d_mo_read_9 : decode c_mo_read 9 = .ok (.iconst 1, 1) := by decide +kernel
theorem d_mo_read_10 : decode c_mo_read 10 = .ok (.goto 19, 3) := by decide +kernel
theorem d_mo_read_13 : decode c_mo_read 13 = .ok (.iload_n 2, 1) := by decide +kernel
theorem d_mo_read_14 : decode c_mo_read 14 = .ok (.ifCond .lt 10, 3) := by decide +kernel
theorem d_mo_read_17 : decode c_mo_read 17 = .ok (.iload_n 2, 1) := by decide +kernel
theorem d_mo_read_18 : decode c_mo_read 18 = .ok (.sipush 255, 3) := by decide +kernel
theorem d_mo_read_21 : decode c_mo_read 21 = .ok (.if_icmp .le 7, 3) := by decide +kernel
theorem d_mo_read_24 : decode c_mo_read 24 = .ok (.iconst 2, 1) := by decide +kernel
theorem d_mo_read_25 : decode c_mo_read 25 = .ok (.goto 4, 3) := by decide +kernel
theorem d_mo_read_28 : decode c_mo_read 28 = .ok (.iconst 0, 1) := by decide +kernel
theorem d_mo_read_29 : decode c_mo_read 29 = .ok (.invokevirtual 157, 3) := by decide +kernel
theorem d_mo_read_32 : decode c_mo_read 32 = .ok (.ifCond .eq 7, 3) := by decide +kernel
theorem d_mo_read_35 : decode c_mo_read 35 = .ok (.iconst 0, 1) := by decide +kernel
theorem d_mo_read_36 : decode c_mo_read 36 = .ok (.goto 15, 3) := by decide +kernel
theorem d_mo_read_39 : decode c_mo_read 39 = .ok (.aload_n 0, 1) := by decide +kernel
theorem d_mo_read_40 : decode c_mo_read 40 = .ok (.getfield 37, 3) := by decide +kernel
theorem d_mo_read_43 : decode c_mo_read 43 = .ok (.sipush 256, 3) := by decide +kernel
theorem d_mo_read_46 : decode c_mo_read 46 = .ok (.iload_n 1, 1) := by decide +kernel
theorem d_mo_read_47 : decode c_mo_read 47 = .ok (.imul, 1) := by decide +kernel
theorem d_mo_read_48 : decode c_mo_read 48 = .ok (.iload_n 2, 1) := by decide +kernel
theorem d_mo_read_49 : decode c_mo_read 49 = .ok (.iadd, 1) := by decide +kernel
theorem d_mo_read_50 : decode c_mo_read 50 = .ok (.iaload, 1) := by decide +kernel
theorem d_mo_read_51 : decode c_mo_read 51 = .ok (.ireturn, 1) := by decide +kernel
theorem d_mo_enter_0 : decode c_mo_enter 0 = .ok (.aload_n 0, 1) := by decide +kernel
theorem d_mo_enter_1 : decode c_mo_enter 1 = .ok (.aload_n 0, 1) := by decide +kernel
theorem d_mo_enter_2 : decode c_mo_enter 2 = .ok (.iload_n 1, 1) := by decide +kernel
theorem d_mo_enter_3 : decode c_mo_enter 3 = .ok (.invokevirtual 197, 3) := by decide +kernel
theorem d_mo_enter_6 : decode c_mo_enter 6 = .ok (.ifCond .ne 7, 3) := by decide +kernel
theorem d_mo_enter_9 : decode c_mo_enter 9 = .ok (.iconst 1, 1) := by decide +kernel
theorem d_mo_enter_10 : decode c_mo_enter 10 = .ok (.goto 24, 3) := by decide +kernel
theorem d_mo_enter_13 : decode c_mo_enter 13 = .ok (.aload_n 0, 1) := by decide +kernel
theorem d_mo_enter_14 : decode c_mo_enter 14 = .ok (.getfield 208, 3) := by decide +kernel
theorem d_mo_enter_17 : decode c_mo_enter 17 = .ok (.ifCond .gt 12, 3) := by decide +kernel
theorem d_mo_enter_20 : decode c_mo_enter 20 = .ok (.aload_n 0, 1) := by decide +kernel
theorem d_mo_enter_21 : decode c_mo_enter 21 = .ok (.getfield 43, 3) := by decide +kernel
theorem d_mo_enter_24 : decode c_mo_enter 24 = .ok (.iload_n 1, 1) := by decide +kernel
theorem d_mo_enter_25 : decode c_mo_enter 25 = .ok (.iaload, 1) := by decide +kernel
theorem d_mo_enter_26 : decode c_mo_enter 26 = .ok (.ifCond .eq 7, 3) := by decide +kernel
theorem d_mo_enter_29 : decode c_mo_enter 29 = .ok (.iconst 2, 1) := by decide +kernel
theorem d_mo_enter_30 : decode c_mo_enter 30 = .ok (.goto 4, 3) := by decide +kernel
theorem d_mo_enter_33 : decode c_mo_enter 33 = .ok (.iconst 0, 1) := by decide +kernel
theorem d_mo_enter_34 : decode c_mo_enter 34 = .ok (.invokevirtual 157, 3) := by decide +kernel
theorem d_mo_enter_37 : decode c_mo_enter 37 = .ok (.ifCond .eq 4, 3) := by decide +kernel
theorem d_mo_enter_40 : decode c_mo_enter 40 = .ok (.return_, 1) := by decide +kernel
theorem d_mo_enter_41 : decode c_mo_enter 41 = .ok (.aload_n 0, 1) := by decide +kernel
theorem d_mo_enter_42 : decode c_mo_enter 42 = .ok (.iload_n 1, 1) := by decide +kernel
theorem d_mo_enter_43 : decode c_mo_enter 43 = .ok (.iconst (-1), 1) := by decide +kernel
theorem d_mo_enter_44 : decode c_mo_enter 44 = .ok (.iconst (-1), 1) := by decide +kernel
theorem d_mo_enter_45 : decode c_mo_enter 45 = .ok (.invokevirtual 211, 3) := by decide +kernel
theorem d_mo_enter_48 : decode c_mo_enter 48 = .ok (.return_, 1) := by decide +kernel
theorem d_mo_leave_0 : decode c_mo_leave 0 = .ok (.aload_n 0, 1) := by decide +kernel
theorem d_mo_leave_1 : decode c_mo_leave 1 = .ok (.aload_n 0, 1) := by decide +kernel
theorem d_mo_leave_2 : decode c_mo_leave 2 = .ok (.getfield 208, 3) := by decide +kernel
theorem d_mo_leave_5 : decode c_mo_leave 5 = .ok (.iconst 1, 1) := by decide +kernel
theorem d_mo_leave_6 : decode c_mo_leave 6 = .ok (.if_icmp .eq 7, 3) := by decide +kernel
theorem d_mo_leave_9 : decode c_mo_leave 9 = .ok (.iconst 1, 1) := by decide +kernel
theorem d_mo_leave_10 : decode c_mo_leave 10 = .ok (.goto 4, 3) := by decide +kernel
theorem d_mo_leave_13 : decode c_mo_leave 13 = .ok (.iconst 0, 1) := by decide +kernel
theorem d_mo_leave_14 : decode c_mo_leave 14 = .ok (.invokevirtual 157, 3) := by decide +kernel
theorem d_mo_leave_17 : decode c_mo_leave 17 = .ok (.ifCond .eq 4, 3) := by decide +kernel
theorem d_mo_leave_20 : decode c_mo_leave 20 = .ok (.return_, 1) := by decide +kernel
theorem d_mo_leave_21 : decode c_mo_leave 21 = .ok (.aload_n 0, 1) := by decide +kernel
theorem d_mo_leave_22 : decode c_mo_leave 22 = .ok (.iconst 0, 1) := by decide +kernel
theorem d_mo_leave_23 : decode c_mo_leave 23 = .ok (.putfield 208, 3) := by decide +kernel
theorem d_mo_leave_26 : decode c_mo_leave 26 = .ok (.aload_n 0, 1) := by decide +kernel
theorem d_mo_leave_27 : decode c_mo_leave 27 = .ok (.getfield 43, 3) := by decide +kernel
theorem d_mo_leave_30 : decode c_mo_leave 30 = .ok (.aload_n 0, 1) := by decide +kernel
theorem d_mo_leave_31 : decode c_mo_leave 31 = .ok (.getfield 80, 3) := by decide +kernel
theorem d_mo_leave_34 : decode c_mo_leave 34 = .ok (.iconst 0, 1) := by decide +kernel
theorem d_mo_leave_35 : decode c_mo_leave 35 = .ok (.iaload, 1) := by decide +kernel
theorem d_mo_leave_36 : decode c_mo_leave 36 = .ok (.iconst 0, 1) := by decide +kernel
theorem d_mo_leave_37 : decode c_mo_leave 37 = .ok (.iastore, 1) := by decide +kernel
theorem d_mo_leave_38 : decode c_mo_leave 38 = .ok (.aload_n 0, 1) := by decide +kernel
theorem d_mo_leave_39 : decode c_mo_leave 39 = .ok (.getfield 40, 3) := by decide +kernel
theorem d_mo_leave_42 : decode c_mo_leave 42 = .ok (.aload_n 0, 1) := by decide +kernel
theorem d_mo_leave_43 : decode c_mo_leave 43 = .ok (.getfield 80, 3) := by decide +kernel
theorem d_mo_leave_46 : decode c_mo_leave 46 = .ok (.iconst 0, 1) := by decide +kernel
theorem d_mo_leave_47 : decode c_mo_leave 47 = .ok (.iaload, 1) := by decide +kernel
theorem d_mo_leave_48 : decode c_mo_leave 48 = .ok (.sipush 128, 3) := by decide +kernel
theorem d_mo_leave_51 : decode c_mo_leave 51 = .ok (.iastore, 1) := by decide +kernel
theorem d_mo_leave_52 : decode c_mo_leave 52 = .ok (.return_, 1) := by decide +kernel
theorem d_mo_latest_0 : decode c_mo_latest 0 = .ok (.aload_n 0, 1) := by decide +kernel
theorem d_mo_latest_1 : decode c_mo_latest 1 = .ok (.iload_n 1, 1) := by decide +kernel
theorem d_mo_latest_2 : decode c_mo_latest 2 = .ok (.ifCond .lt 8, 3) := by decide +kernel
theorem d_mo_latest_5 : decode c_mo_latest 5 = .ok (.iload_n 1, 1) := by decide +kernel
theorem d_mo_latest_6 : decode c_mo_latest 6 = .ok (.iconst 2, 1) := by decide +kernel
theorem d_mo_latest_7 : decode c_mo_latest 7 = .ok (.if_icmp .le 7, 3) := by decide +kernel
theorem d_mo_latest_10 : decode c_mo_latest 10 = .ok (.iconst 1, 1) := by decide +kernel
theorem d_mo_latest_11 : decode c_mo_latest 11 = .ok (.goto 4, 3) := by decide +kernel
theorem d_mo_latest_14 : decode c_mo_latest 14 = .ok (.iconst 0, 1) := by decide +kernel
theorem d_mo_latest_15 : decode c_mo_latest 15 = .ok (.invokevirtual 157, 3) := by decide +kernel
theorem d_mo_latest_18 : decode c_mo_latest 18 = .ok (.ifCond .eq 5, 3) := by decide +kernel
theorem d_mo_latest_21 : decode c_mo_latest 21 = .ok (.iconst 0, 1) := by decide +kernel
theorem d_mo_latest_22 : decode c_mo_latest 22 = .ok (.ireturn, 1) := by decide +kernel
theorem d_mo_latest_23 : decode c_mo_latest 23 = .ok (.iload_n 1, 1) := by decide +kernel
theorem d_mo_latest_24 : decode c_mo_latest 24 = .ok (.ifCond .ne 10, 3) := by decide +kernel
theorem d_mo_latest_27 : decode c_mo_latest 27 = .ok (.aload_n 0, 1) := by decide +kernel
theorem d_mo_latest_28 : decode c_mo_latest 28 = .ok (.getfield 278, 3) := by decide +kernel
theorem d_mo_latest_31 : decode c_mo_latest 31 = .ok (.goto 19, 3) := by decide +kernel
theorem d_mo_latest_34 : decode c_mo_latest 34 = .ok (.iload_n 1, 1) := by decide +kernel
theorem d_mo_latest_35 : decode c_mo_latest 35 = .ok (.iconst 1, 1) := by decide +kernel
theorem d_mo_latest_36 : decode c_mo_latest 36 = .ok (.if_icmp .ne 10, 3) := by decide +kernel
theorem d_mo_latest_39 : decode c_mo_latest 39 = .ok (.aload_n 0, 1) := by decide +kernel
theorem d_mo_latest_40 : decode c_mo_latest 40 = .ok (.getfield 281, 3) := by decide +kernel
theorem d_mo_latest_43 : decode c_mo_latest 43 = .ok (.goto 7, 3) := by decide +kernel
theorem d_mo_latest_46 : decode c_mo_latest 46 = .ok (.aload_n 0, 1) := by decide +kernel
theorem d_mo_latest_47 : decode c_mo_latest 47 = .ok (.getfield 89, 3) := by decide +kernel
theorem d_mo_latest_50 : decode c_mo_latest 50 = .ok (.ireturn, 1) := by decide +kernel
