theorem d_hc_part_0 : decode c_hc_part 0 = .ok (.aload_n 0, 1) := by decide +kernel
theorem d_hc_part_1 : decode c_hc_part 1 = .ok (.iload_n 1, 1) := by decide +kernel
theorem d_hc_part_2 : decode c_hc_part 2 = .ok (.invokevirtual 82, 3) := by decide +kernel
theorem d_hc_part_5 : decode c_hc_part 5 = .ok (.ifCond .ne 13, 3) := by decide +kernel
theorem d_hc_part_8 : decode c_hc_part 8 = .ok (.new 86, 3) := by decide +kernel
theorem d_hc_part_11 : decode c_hc_part 11 = .ok (.dup, 1) := by decide +kernel
theorem d_hc_part_12 : decode c_hc_part 12 = .ok (.ldc 88, 2) := by decide +kernel
theorem d_hc_part_14 : decode c_hc_part 14 = .ok (.invokespecial 90, 3) := by decide +kernel
theorem d_hc_part_17 : decode c_hc_part 17 = .ok (.athrow, 1) := by decide +kernel
theorem d_hc_part_18 : decode c_hc_part 18 = .ok (.aload_n 0, 1) := by decide +kernel
theorem d_hc_part_19 : decode c_hc_part 19 = .ok (.getfield 22, 3) := by decide +kernel
theorem d_hc_part_22 : decode c_hc_part 22 = .ok (.bipush 6, 2) := by decide +kernel
theorem d_hc_part_24 : decode c_hc_part 24 = .ok (.if_icmp .lt 13, 3) := by decide +kernel
theorem d_hc_part_27 : decode c_hc_part 27 = .ok (.new 93, 3) := by decide +kernel
theorem d_hc_part_30 : decode c_hc_part 30 = .ok (.dup, 1) := by decide +kernel
theorem d_hc_part_31 : decode c_hc_part 31 = .ok (.ldc 95, 2) := by decide +kernel
theorem d_hc_part_33 : decode c_hc_part 33 = .ok (.invokespecial 97, 3) := by decide +kernel
theorem d_hc_part_36 : decode c_hc_part 36 = .ok (.athrow, 1) := by decide +kernel
theorem d_hc_part_37 : decode c_hc_part 37 = .ok (.aload_n 0, 1) := by decide +kernel
theorem d_hc_part_38 : decode c_hc_part 38 = .ok (.getfield 19, 3) := by decide +kernel
theorem d_hc_part_41 : decode c_hc_part 41 = .ok (.aload_n 0, 1) := by decide +kernel
theorem d_hc_part_42 : decode c_hc_part 42 = .ok (.getfield 22, 3) := by decide +kernel
theorem d_hc_part_45 : decode c_hc_part 45 = .ok (.aload_n 0, 1) := by decide +kernel
theorem d_hc_part_46 : decode c_hc_part 46 = .ok (.getfield 11, 3) := by decide +kernel
theorem d_hc_part_49 : decode c_hc_part 49 = .ok (.iload_n 1, 1) := by decide +kernel
theorem d_hc_part_50 : decode c_hc_part 50 = .ok (.aaload, 1) := by decide +kernel
theorem d_hc_part_51 : decode c_hc_part 51 = .ok (.aastore, 1) := by decide +kernel
theorem d_hc_part_52 : decode c_hc_part 52 = .ok (.aload_n 0, 1) := by decide +kernel
theorem d_hc_part_53 : decode c_hc_part 53 = .ok (.dup, 1) := by decide +kernel
theorem d_hc_part_54 : decode c_hc_part 54 = .ok (.getfield 22, 3) := by decide +kernel
theorem d_hc_part_57 : decode c_hc_part 57 = .ok (.iconst 1, 1) := by decide +kernel
theorem d_hc_part_58 : decode c_hc_part 58 = .ok (.iadd, 1) := by decide +kernel
theorem d_hc_part_59 : decode c_hc_part 59 = .ok (.putfield 22, 3) := by decide +kernel
theorem d_hc_part_62 : decode c_hc_part 62 = .ok (.aload_n 0, 1) := by decide +kernel
theorem d_hc_part_63 : decode c_hc_part 63 = .ok (.getfield 22, 3) := by decide +kernel
theorem d_hc_part_66 : decode c_hc_part 66 = .ok (.ireturn, 1) := by decide +kernel
theorem d_hc_fits_0 : decode c_hc_fits 0 = .ok (.aload_n 0, 1) := by decide +kernel
theorem d_hc_fits_1 : decode c_hc_fits 1 = .ok (.iload_n 1, 1) := by decide +kernel
theorem d_hc_fits_2 : decode c_hc_fits 2 = .ok (.invokevirtual 82, 3) := by decide +kernel
theorem d_hc_fits_5 : decode c_hc_fits 5 = .ok (.ifCond .eq 11, 3) := by decide +kernel
theorem d_hc_fits_8 : decode c_hc_fits 8 = .ok (.aload_n 0, 1) := by decide +kernel
theorem d_hc_fits_9 : decode c_hc_fits 9 = .ok (.iload_n 2, 1) := by decide +kernel
theorem d_hc_fits_10 : decode c_hc_fits 10 = .ok (.invokevirtual 82, 3) := by decide +kernel
theorem d_hc_fits_13 : decode c_hc_fits 13 = .ok (.ifCond .ne 13, 3) := by decide +kernel
theorem d_hc_fits_16 : decode c_hc_fits 16 = .ok (.new 86, 3) := by decide +kernel
theorem d_hc_fits_19 : decode c_hc_fits 19 = .ok (.dup, 1) := by decide +kernel
theorem d_hc_fits_20 : decode c_hc_fits 20 = .ok (.ldc 88, 2) := by decide +kernel
theorem d_hc_fits_22 : decode c_hc_fits 22 = .ok (.invokespecial 90, 3) := by decide +kernel
theorem d_hc_fits_25 : decode c_hc_fits 25 = .ok (.athrow, 1) := by decide +kernel
theorem d_hc_fits_26 : decode c_hc_fits 26 = .ok (.aload_n 0, 1) := by decide +kernel
theorem d_hc_fits_27 : decode c_hc_fits 27 = .ok (.getfield 11, 3) := by decide +kernel
theorem d_hc_fits_30 : decode c_hc_fits 30 = .ok (.iload_n 1, 1) := by decide +kernel
theorem d_hc_fits_31 : decode c_hc_fits 31 = .ok (.aaload, 1) := by decide +kernel
theorem d_hc_fits_32 : decode c_hc_fits 32 = .ok (.aload_n 0, 1) := by decide +kernel
theorem d_hc_fits_33 : decode c_hc_fits 33 = .ok (.getfield 11, 3) := by decide +kernel
theorem d_hc_fits_36 : decode c_hc_fits 36 = .ok (.iload_n 2, 1) := by decide +kernel
theorem d_hc_fits_37 : decode c_hc_fits 37 = .ok (.aaload, 1) := by decide +kernel
theorem d_hc_fits_38 : decode c_hc_fits 38 = .ok (.invokestatic 140, 3) := by decide +kernel
theorem d_hc_fits_41 : decode c_hc_fits 41 = .ok (.ireturn, 1) := by decide +kernel
theorem d_hc_read_0 : decode c_hc_read 0 = .ok (.aload_n 0, 1) := by decide +kernel
theorem d_hc_read_1 : decode c_hc_read 1 = .ok (.iload_n 1, 1) := by decide +kernel
theorem d_hc_read_2 : decode c_hc_read 2 = .ok (.invokevirtual 147, 3) := by decide +kernel
theorem d_hc_read_5 : decode c_hc_read 5 = .ok (.ifCond .ne 13, 3) := by decide +kernel
theorem d_hc_read_8 : decode c_hc_read 8 = .ok (.new 86, 3) := by decide +kernel
theorem d_hc_read_11 : decode c_hc_read 11 = .ok (.dup, 1) := by decide +kernel
theorem d_hc_read_12 : decode c_hc_read 12 = .ok (.ldc 177, 2) := by decide +kernel
theorem d_hc_read_14 : decode c_hc_read 14 = .ok (.invokespecial 90, 3) := by decide +kernel
theorem d_hc_read_17 : decode c_hc_read 17 = .ok (.athrow, 1) := by decide +kernel
theorem d_hc_read_18 : decode c_hc_read 18 = .ok (.iload_n 2, 1) := by decide +kernel
theorem d_hc_read_19 : decode c_hc_read 19 = .ok (.invokestatic 168, 3) := by decide +kernel
theorem d_hc_read_22 : decode c_hc_read 22 = .ok (.ifCond .ne 13, 3) := by decide +kernel
theorem d_hc_read_25 : decode c_hc_read 25 = .ok (.new 126, 3) := by decide +kernel
theorem d_hc_read_28 : decode c_hc_read 28 = .ok (.dup, 1) := by decide +kernel
theorem d_hc_read_29 : decode c_hc_read 29 = .ok (.ldc 171, 2) := by decide +kernel
theorem d_hc_read_31 : decode c_hc_read 31 = .ok (.invokespecial 130, 3) := by decide +kernel
theorem d_hc_read_34 : decode c_hc_read 34 = .ok (.athrow, 1) := by decide +kernel
theorem d_hc_read_35 : decode c_hc_read 35 = .ok (.aload_n 0, 1) := by decide +kernel
theorem d_hc_read_36 : decode c_hc_read 36 = .ok (.getfield 27, 3) := by decide +kernel
theorem d_hc_read_39 : decode c_hc_read 39 = .ok (.iload_n 1, 1) := by decide +kernel
theorem d_hc_read_40 : decode c_hc_read 40 = .ok (.aaload, 1) := by decide +kernel
theorem d_hc_read_41 : decode c_hc_read 41 = .ok (.getfield 179, 3) := by decide +kernel
theorem d_hc_read_44 : decode c_hc_read 44 = .ok (.iload_n 2, 1) := by decide +kernel
theorem d_hc_read_45 : decode c_hc_read 45 = .ok (.iaload, 1) := by decide +kernel
theorem d_hc_read_46 : decode c_hc_read 46 = .ok (.ireturn, 1) := by decide +kernel
theorem d_hc_write_0 : decode c_hc_write 0 = .ok (.aload_n 0, 1) := by decide +kernel
theorem d_hc_write_1 : decode c_hc_write 1 = .ok (.iload_n 1, 1) := by decide +kernel
theorem d_hc_write_2 : decode c_hc_write 2 = .ok (.invokevirtual 147, 3) := by decide +kernel
theorem d_hc_write_5 : decode c_hc_write 5 = .ok (.ifCond .eq 14, 3) := by decide +kernel
theorem d_hc_write_8 : decode c_hc_write 8 = .ok (.iload_n 3, 1) := by decide +kernel
theorem d_hc_write_9 : decode c_hc_write 9 = .ok (.iconst 1, 1) := by decide +kernel
theorem d_hc_write_10 : decode c_hc_write 10 = .ok (.if_icmp .lt 9, 3) := by decide +kernel
theorem d_hc_write_13 : decode c_hc_write 13 = .ok (.iload_n 3, 1) := by decide +kernel
theorem d_hc_write_14 : decode c_hc_write 14 = .ok (.bipush 8, 2) := by decide +kernel
theorem d_hc_write_16 : decode c_hc_write 16 = .ok (.if_icmp .le 13, 3) := by decide +kernel
theorem d_hc_write_19 : decode c_hc_write 19 = .ok (.new 86, 3) := by decide +kernel
theorem d_hc_write_22 : decode c_hc_write 22 = .ok (.dup, 1) := by decide +kernel
theorem d_hc_write_23 : decode c_hc_write 23 = .ok (.ldc 166, 2) := by decide +kernel
theorem d_hc_write_25 : decode c_hc_write 25 = .ok (.invokespecial 90, 3) := by decide +kernel
theorem d_hc_write_28 : decode c_hc_write 28 = .ok (.athrow, 1) := by decide +kernel
theorem d_hc_write_29 : decode c_hc_write 29 = .ok (.iload_n 2, 1) := by decide +kernel
theorem d_hc_write_30 : decode c_hc_write 30 = .ok (.invokestatic 168, 3) := by decide +kernel
theorem d_hc_write_33 : decode c_hc_write 33 = .ok (.ifCond .ne 13, 3) := by decide +kernel
theorem d_hc_write_36 : decode c_hc_write 36 = .ok (.new 126, 3) := by decide +kernel
theorem d_hc_write_39 : decode c_hc_write 39 = .ok (.dup, 1) := by decide +kernel
theorem d_hc_write_40 : decode c_hc_write 40 = .ok (.ldc 171, 2) := by decide +kernel
theorem d_hc_write_42 : decode c_hc_write 42 = .ok (.invokespecial 130, 3) := by decide +kernel
theorem d_hc_write_45 : decode c_hc_write 45 = .ok (.athrow, 1) := by decide +kernel
theorem d_hc_write_46 : decode c_hc_write 46 = .ok (.aload_n 0, 1) := by decide +kernel
theorem d_hc_write_47 : decode c_hc_write 47 = .ok (.getfield 27, 3) := by decide +kernel
theorem d_hc_write_50 : decode c_hc_write 50 = .ok (.iload_n 1, 1) := by decide +kernel
theorem d_hc_write_51 : decode c_hc_write 51 = .ok (.aaload, 1) := by decide +kernel
theorem d_hc_write_52 : decode c_hc_write 52 = .ok (.iload_n 2, 1) := by decide +kernel
theorem d_hc_write_53 : decode c_hc_write 53 = .ok (.iload_n 3, 1) := by decide +kernel
theorem d_hc_write_54 : decode c_hc_write 54 = .ok (.lload 4, 2) := by decide +kernel
theorem d_hc_write_56 : decode c_hc_write 56 = .ok (.invokevirtual 173, 3) := by decide +kernel
theorem d_hc_write_59 : decode c_hc_write 59 = .ok (.return_, 1) := by decide +kernel
theorem d_hc_enter_0 : decode c_hc_enter 0 = .ok (.aload_n 0, 1) := by decide +kernel
theorem d_hc_enter_1 : decode c_hc_enter 1 = .ok (.iload_n 1, 1) := by decide +kernel
theorem d_hc_enter_2 : decode c_hc_enter 2 = .ok (.invokevirtual 147, 3) := by decide +kernel
theorem d_hc_enter_5 : decode c_hc_enter 5 = .ok (.ifCond .ne 13, 3) := by decide +kernel
theorem d_hc_enter_8 : decode c_hc_enter 8 = .ok (.new 86, 3) := by decide +kernel
theorem d_hc_enter_11 : decode c_hc_enter 11 = .ok (.dup, 1) := by decide +kernel
theorem d_hc_enter_12 : decode c_hc_enter 12 = .ok (.ldc 177, 2) := by decide +kernel
theorem d_hc_enter_14 : decode c_hc_enter 14 = .ok (.invokespecial 90, 3) := by decide +kernel
theorem d_hc_enter_17 : decode c_hc_enter 17 = .ok (.athrow, 1) := by decide +kernel
theorem d_hc_enter_18 : decode c_hc_enter 18 = .ok (.aload_n 0, 1) := by decide +kernel
theorem d_hc_enter_19 : decode c_hc_enter 19 = .ok (.getfield 53, 3) := by decide +kernel
theorem d_hc_enter_22 : decode c_hc_enter 22 = .ok (.ifCond .ne 15, 3) := by decide +kernel
theorem d_hc_enter_25 : decode c_hc_enter 25 = .ok (.aload_n 0, 1) := by decide +kernel
theorem d_hc_enter_26 : decode c_hc_enter 26 = .ok (.getfield 27, 3) := by decide +kernel
theorem d_hc_enter_29 : decode c_hc_enter 29 = .ok (.iload_n 1, 1) := by decide +kernel
theorem d_hc_enter_30 : decode c_hc_enter 30 = .ok (.aaload, 1) := by decide +kernel
theorem d_hc_enter_31 : decode c_hc_enter 31 = .ok (.getfield 182, 3) := by decide +kernel
theorem d_hc_enter_34 : decode c_hc_enter 34 = .ok (.ifCond .eq 13, 3) := by decide +kernel
theorem d_hc_enter_37 : decode c_hc_enter 37 = .ok (.new 93, 3) := by decide +kernel
theorem d_hc_enter_40 : decode c_hc_enter 40 = .ok (.dup, 1) := by decide +kernel
theorem d_hc_enter_41 : decode c_hc_enter 41 = .ok (.ldc 185, 2) := by decide +kernel
theorem d_hc_enter_43 : decode c_hc_enter 43 = .ok (.invokespecial 97, 3) := by decide +kernel
theorem d_hc_enter_46 : decode c_hc_enter 46 = .ok (.athrow, 1) := by decide +kernel
theorem d_hc_enter_47 : decode c_hc_enter 47 = .ok (.aload_n 0, 1) := by decide +kernel
theorem d_hc_enter_48 : decode c_hc_enter 48 = .ok (.iload_n 1, 1) := by decide +kernel
theorem d_hc_enter_49 : decode c_hc_enter 49 = .ok (.iconst (-1), 1) := by decide +kernel
theorem d_hc_enter_50 : decode c_hc_enter 50 = .ok (.iconst (-1), 1) := by decide +kernel
theorem d_hc_enter_51 : decode c_hc_enter 51 = .ok (.invokevirtual 187, 3) := by decide +kernel
theorem d_hc_enter_54 : decode c_hc_enter 54 = .ok (.return_, 1) := by decide +kernel
theorem d_hc_leave_0 : decode c_hc_leave 0 = .ok (.aload_n 0, 1) := by decide +kernel
theorem d_hc_leave_1 : decode c_hc_leave 1 = .ok (.getfield 53, 3) := by decide +kernel
theorem d_hc_leave_4 : decode c_hc_leave 4 = .ok (.iconst 1, 1) := by decide +kernel
theorem d_hc_leave_5 : decode c_hc_leave 5 = .ok (.if_icmp .eq 13, 3) := by decide +kernel
theorem d_hc_leave_8 : decode c_hc_leave 8 = .ok (.new 93, 3) := by decide +kernel
theorem d_hc_leave_11 : decode c_hc_leave 11 = .ok (.dup, 1) := by decide +kernel
theorem d_hc_leave_12 : decode c_hc_leave 12 = .ok (.ldc 191, 2) := by decide +kernel
theorem d_hc_leave_14 : decode c_hc_leave 14 = .ok (.invokespecial 97, 3) := by decide +kernel
theorem d_hc_leave_17 : decode c_hc_leave 17 = .ok (.athrow, 1) := by decide +kernel
theorem d_hc_leave_18 : decode c_hc_leave 18 = .ok (.aload_n 0, 1) := by decide +kernel
theorem d_hc_leave_19 : decode c_hc_leave 19 = .ok (.invokevirtual 193, 3) := by decide +kernel
theorem d_hc_leave_22 : decode c_hc_leave 22 = .ok (.return_, 1) := by decide +kernel
theorem d_hc_resources_0 : decode c_hc_resources 0 = .ok (.iload_n 1, 1) := by decide +kernel
theorem d_hc_resources_1 : decode c_hc_resources 1 = .ok (.invokestatic 198, 3) := by decide +kernel
theorem d_hc_resources_4 : decode c_hc_resources 4 = .ok (.ifCond .ne 13, 3) := by decide +kernel
theorem d_hc_resources_7 : decode c_hc_resources 7 = .ok (.new 86, 3) := by decide +kernel
theorem d_hc_resources_10 : decode c_hc_resources 10 = .ok (.dup, 1) := by decide +kernel
theorem d_hc_resources_11 : decode c_hc_resources 11 = .ok (.ldc 201, 2) := by decide +kernel
theorem d_hc_resources_13 : decode c_hc_resources 13 = .ok (.invokespecial 90, 3) := by decide +kernel
theorem d_hc_resources_16 : decode c_hc_resources 16 = .ok (.athrow, 1) := by decide +kernel
theorem d_hc_resources_17 : decode c_hc_resources 17 = .ok (.iload_n 2, 1) := by decide +kernel
theorem d_hc_resources_18 : decode c_hc_resources 18 = .ok (.ifCond .eq 12, 3) := by decide +kernel
theorem d_hc_resources_21 : decode c_hc_resources 21 = .ok (.aload_n 0, 1) := by decide +kernel
theorem d_hc_resources_22 : decode c_hc_resources 22 = .ok (.getfield 62, 3) := by decide +kernel
theorem d_hc_resources_25 : decode c_hc_resources 25 = .ok (.iload_n 1, 1) := by decide +kernel
theorem d_hc_resources_26 : decode c_hc_resources 26 = .ok (.iaload, 1) := by decide +kernel
theorem d_hc_resources_27 : decode c_hc_resources 27 = .ok (.goto 9, 3) := by decide +kernel
theorem d_hc_resources_30 : decode c_hc_resources 30 = .ok (.aload_n 0, 1) := by decide +kernel
theorem d_hc_resources_31 : decode c_hc_resources 31 = .ok (.getfield 59, 3) := by decide +kernel
theorem d_hc_resources_34 : decode c_hc_resources 34 = .ok (.iload_n 1, 1) := by decide +kernel
theorem d_hc_resources_35 : decode c_hc_resources 35 = .ok (.iaload, 1) := by decide +kernel
theorem d_hc_resources_36 : decode c_hc_resources 36 = .ok (.ireturn, 1) := by decide +kernel
theorem d_hc_make_0 : decode c_hc_make 0 = .ok (.aload_n 0, 1) := by decide +kernel
theorem d_hc_make_1 : decode c_hc_make 1 = .ok (.getfield 53, 3) := by decide +kernel
theorem d_hc_make_4 : decode c_hc_make 4 = .ok (.ifCond .ne 13, 3) := by decide +kernel
theorem d_hc_make_7 : decode c_hc_make 7 = .ok (.new 93, 3) := by decide +kernel
theorem d_hc_make_10 : decode c_hc_make 10 = .ok (.dup, 1) := by decide +kernel
theorem d_hc_make_11 : decode c_hc_make 11 = .ok (.ldc 196, 2) := by decide +kernel
theorem d_hc_make_13 : decode c_hc_make 13 = .ok (.invokespecial 97, 3) := by decide +kernel
theorem d_hc_make_16 : decode c_hc_make 16 = .ok (.athrow, 1) := by decide +kernel
theorem d_hc_make_17 : decode c_hc_make 17 = .ok (.iload_n 1, 1) := by decide +kernel
theorem d_hc_make_18 : decode c_hc_make 18 = .ok (.invokestatic 198, 3) := by decide +kernel
theorem d_hc_make_21 : decode c_hc_make 21 = .ok (.ifCond .ne 13, 3) := by decide +kernel
theorem d_hc_make_24 : decode c_hc_make 24 = .ok (.new 86, 3) := by decide +kernel
theorem d_hc_make_27 : decode c_hc_make 27 = .ok (.dup, 1) := by decide +kernel
theorem d_hc_make_28 : decode c_hc_make 28 = .ok (.ldc 201, 2) := by decide +kernel
theorem d_hc_make_30 : decode c_hc_make 30 = .ok (.invokespecial 90, 3) := by decide +kernel
theorem d_hc_make_33 : decode c_hc_make 33 = .ok (.athrow, 1) := by decide +kernel
theorem d_hc_make_34 : decode c_hc_make 34 = .ok (.aload_n 0, 1) := by decide +kernel
theorem d_hc_make_35 : decode c_hc_make 35 = .ok (.getfield 27, 3) := by decide +kernel
theorem d_hc_make_38 : decode c_hc_make 38 = .ok (.aload_n 0, 1) := by decide +kernel
theorem d_hc_make_39 : decode c_hc_make 39 = .ok (.invokevirtual 203, 3) := by decide +kernel
theorem d_hc_make_42 : decode c_hc_make 42 = .ok (.aaload, 1) := by decide +kernel
theorem d_hc_make_43 : decode c_hc_make 43 = .ok (.astore_n 2, 1) := by decide +kernel
theorem d_hc_make_44 : decode c_hc_make 44 = .ok (.aload_n 2, 1) := by decide +kernel
theorem d_hc_make_45 : decode c_hc_make 45 = .ok (.invokevirtual 207, 3) := by decide +kernel
theorem d_hc_make_48 : decode c_hc_make 48 = .ok (.istore_n 3, 1) := by decide +kernel
theorem d_hc_make_49 : decode c_hc_make 49 = .ok (.iload_n 3, 1) := by decide +kernel
theorem d_hc_make_50 : decode c_hc_make 50 = .ok (.iconst (-1), 1) := by decide +kernel
theorem d_hc_make_51 : decode c_hc_make 51 = .ok (.if_icmp .ne 13, 3) := by decide +kernel
theorem d_hc_make_54 : decode c_hc_make 54 = .ok (.new 156, 3) := by decide +kernel
theorem d_hc_make_57 : decode c_hc_make 57 = .ok (.dup, 1) := by decide +kernel
theorem d_hc_make_58 : decode c_hc_make 58 = .ok (.ldc 210, 2) := by decide +kernel
theorem d_hc_make_60 : decode c_hc_make 60 = .ok (.invokespecial 160, 3) := by decide +kernel
theorem d_hc_make_63 : decode c_hc_make 63 = .ok (.athrow, 1) := by decide +kernel
theorem d_hc_make_64 : decode c_hc_make 64 = .ok (.aload_n 2, 1) := by decide +kernel
theorem d_hc_make_65 : decode c_hc_make 65 = .ok (.getfield 212, 3) := by decide +kernel
theorem d_hc_make_68 : decode c_hc_make 68 = .ok (.iload_n 3, 1) := by decide +kernel
theorem d_hc_make_69 : decode c_hc_make 69 = .ok (.iconst 1, 1) := by decide +kernel
theorem d_hc_make_70 : decode c_hc_make 70 = .ok (.isub, 1) := by decide +kernel
theorem d_hc_make_71 : decode c_hc_make 71 = .ok (.aaload, 1) := by decide +kernel
theorem d_hc_make_72 : decode c_hc_make 72 = .ok (.aload_n 0, 1) := by decide +kernel
theorem d_hc_make_73 : decode c_hc_make 73 = .ok (.getfield 56, 3) := by decide +kernel
theorem d_hc_make_76 : decode c_hc_make 76 = .ok (.iload_n 1, 1) := by decide +kernel
theorem d_hc_make_77 : decode c_hc_make 77 = .ok (.getstatic 216, 3) := by decide +kernel
theorem d_hc_make_80 : decode c_hc_make 80 = .ok (.aconst_null, 1) := by decide +kernel
theorem d_hc_make_81 : decode c_hc_make 81 = .ok (.invokevirtual 222, 3) := by decide +kernel
theorem d_hc_make_84 : decode c_hc_make 84 = .ok (.aload_n 0, 1) := by decide +kernel
theorem d_hc_make_85 : decode c_hc_make 85 = .ok (.dup, 1) := by decide +kernel
theorem d_hc_make_86 : decode c_hc_make 86 = .ok (.getfield 56, 3) := by decide +kernel
theorem d_hc_make_89 : decode c_hc_make 89 = .ok (.iconst 1, 1) := by decide +kernel
theorem d_hc_make_90 : decode c_hc_make 90 = .ok (.iadd, 1) := by decide +kernel
theorem d_hc_make_91 : decode c_hc_make 91 = .ok (.putfield 56, 3) := by decide +kernel
theorem d_hc_make_94 : decode c_hc_make 94 = .ok (.aload_n 0, 1) := by decide +kernel
theorem d_hc_make_95 : decode c_hc_make 95 = .ok (.getfield 59, 3) := by decide +kernel
theorem d_hc_make_98 : decode c_hc_make 98 = .ok (.iload_n 1, 1) := by decide +kernel
theorem d_hc_make_99 : decode c_hc_make 99 = .ok (.dup2, 1) := by decide +kernel
theorem d_hc_make_100 : decode c_hc_make 100 = .ok (.iaload, 1) := by decide +kernel
theorem d_hc_make_101 : decode c_hc_make 101 = .ok (.iconst 1, 1) := by decide +kernel
theorem d_hc_make_102 : decode c_hc_make 102 = .ok (.iadd, 1) := by decide +kernel
theorem d_hc_make_103 : decode c_hc_make 103 = .ok (.iastore, 1) := by decide +kernel
theorem d_hc_make_104 : decode c_hc_make 104 = .ok (.iload_n 3, 1) := by decide +kernel
theorem d_hc_make_105 : decode c_hc_make 105 = .ok (.ireturn, 1) := by decide +kernel
theorem d_hc_drop_0 : decode c_hc_drop 0 = .ok (.aload_n 0, 1) := by decide +kernel
theorem d_hc_drop_1 : decode c_hc_drop 1 = .ok (.getfield 53, 3) := by decide +kernel
theorem d_hc_drop_4 : decode c_hc_drop 4 = .ok (.ifCond .ne 13, 3) := by decide +kernel
theorem d_hc_drop_7 : decode c_hc_drop 7 = .ok (.new 93, 3) := by decide +kernel
theorem d_hc_drop_10 : decode c_hc_drop 10 = .ok (.dup, 1) := by decide +kernel
theorem d_hc_drop_11 : decode c_hc_drop 11 = .ok (.ldc 196, 2) := by decide +kernel
theorem d_hc_drop_13 : decode c_hc_drop 13 = .ok (.invokespecial 97, 3) := by decide +kernel
theorem d_hc_drop_16 : decode c_hc_drop 16 = .ok (.athrow, 1) := by decide +kernel
theorem d_hc_drop_17 : decode c_hc_drop 17 = .ok (.aload_n 0, 1) := by decide +kernel
theorem d_hc_drop_18 : decode c_hc_drop 18 = .ok (.getfield 27, 3) := by decide +kernel
theorem d_hc_drop_21 : decode c_hc_drop 21 = .ok (.aload_n 0, 1) := by decide +kernel
theorem d_hc_drop_22 : decode c_hc_drop 22 = .ok (.invokevirtual 203, 3) := by decide +kernel
theorem d_hc_drop_25 : decode c_hc_drop 25 = .ok (.aaload, 1) := by decide +kernel
theorem d_hc_drop_26 : decode c_hc_drop 26 = .ok (.iload_n 1, 1) := by decide +kernel
theorem d_hc_drop_27 : decode c_hc_drop 27 = .ok (.invokevirtual 228, 3) := by decide +kernel
theorem d_hc_drop_30 : decode c_hc_drop 30 = .ok (.astore_n 2, 1) := by decide +kernel
theorem d_hc_drop_31 : decode c_hc_drop 31 = .ok (.aload_n 2, 1) := by decide +kernel
theorem d_hc_drop_32 : decode c_hc_drop 32 = .ok (.ifnonnull 13, 3) := by decide +kernel
theorem d_hc_drop_35 : decode c_hc_drop 35 = .ok (.new 232, 3) := by decide +kernel
theorem d_hc_drop_38 : decode c_hc_drop 38 = .ok (.dup, 1) := by decide +kernel
theorem d_hc_drop_39 : decode c_hc_drop 39 = .ok (.ldc 234, 2) := by decide +kernel
theorem d_hc_drop_41 : decode c_hc_drop 41 = .ok (.invokespecial 236, 3) := by decide +kernel
theorem d_hc_drop_44 : decode c_hc_drop 44 = .ok (.athrow, 1) := by decide +kernel
theorem d_hc_drop_45 : decode c_hc_drop 45 = .ok (.aload_n 2, 1) := by decide +kernel
theorem d_hc_drop_46 : decode c_hc_drop 46 = .ok (.getfield 237, 3) := by decide +kernel
theorem d_hc_drop_49 : decode c_hc_drop 49 = .ok (.ifCond .le 13, 3) := by decide +kernel
theorem d_hc_drop_52 : decode c_hc_drop 52 = .ok (.new 156, 3) := by decide +kernel
theorem d_hc_drop_55 : decode c_hc_drop 55 = .ok (.dup, 1) := by decide +kernel
theorem d_hc_drop_56 : decode c_hc_drop 56 = .ok (.ldc 240, 2) := by decide +kernel
theorem d_hc_drop_58 : decode c_hc_drop 58 = .ok (.invokespecial 160, 3) := by decide +kernel
theorem d_hc_drop_61 : decode c_hc_drop 61 = .ok (.athrow, 1) := by decide +kernel
theorem d_hc_drop_62 : decode c_hc_drop 62 = .ok (.aload_n 2, 1) := by decide +kernel
theorem d_hc_drop_63 : decode c_hc_drop 63 = .ok (.getfield 242, 3) := by decide +kernel
theorem d_hc_drop_66 : decode c_hc_drop 66 = .ok (.getstatic 216, 3) := by decide +kernel
theorem d_hc_drop_69 : decode c_hc_drop 69 = .ok (.if_acmp .ne 10, 3) := by decide +kernel
theorem d_hc_drop_72 : decode c_hc_drop 72 = .ok (.aload_n 0, 1) := by decide +kernel
theorem d_hc_drop_73 : decode c_hc_drop 73 = .ok (.aload_n 2, 1) := by decide +kernel
theorem d_hc_drop_74 : decode c_hc_drop 74 = .ok (.invokevirtual 245, 3) := by decide +kernel
theorem d_hc_drop_77 : decode c_hc_drop 77 = .ok (.iconst 1, 1) := by decide +kernel
theorem d_hc_drop_78 : decode c_hc_drop 78 = .ok (.ireturn, 1) := by decide +kernel
theorem d_hc_drop_79 : decode c_hc_drop 79 = .ok (.aload_n 2, 1) := by decide +kernel
theorem d_hc_drop_80 : decode c_hc_drop 80 = .ok (.invokevirtual 249, 3) := by decide +kernel
theorem d_hc_drop_83 : decode c_hc_drop 83 = .ok (.iconst 0, 1) := by decide +kernel
theorem d_hc_drop_84 : decode c_hc_drop 84 = .ok (.ireturn, 1) := by decide +kernel
theorem d_hc_trap_0 : decode c_hc_trap 0 = .ok (.aload_n 0, 1) := by decide +kernel
theorem d_hc_trap_1 : decode c_hc_trap 1 = .ok (.getfield 53, 3) := by decide +kernel
theorem d_hc_trap_4 : decode c_hc_trap 4 = .ok (.ifCond .ne 13, 3) := by decide +kernel
theorem d_hc_trap_7 : decode c_hc_trap 7 = .ok (.new 93, 3) := by decide +kernel
theorem d_hc_trap_10 : decode c_hc_trap 10 = .ok (.dup, 1) := by decide +kernel
theorem d_hc_trap_11 : decode c_hc_trap 11 = .ok (.ldc 196, 2) := by decide +kernel
theorem d_hc_trap_13 : decode c_hc_trap 13 = .ok (.invokespecial 97, 3) := by decide +kernel
theorem d_hc_trap_16 : decode c_hc_trap 16 = .ok (.athrow, 1) := by decide +kernel
theorem d_hc_trap_17 : decode c_hc_trap 17 = .ok (.aload_n 0, 1) := by decide +kernel
theorem d_hc_trap_18 : decode c_hc_trap 18 = .ok (.getfield 75, 3) := by decide +kernel
theorem d_hc_trap_21 : decode c_hc_trap 21 = .ok (.bipush 13, 2) := by decide +kernel
theorem d_hc_trap_23 : decode c_hc_trap 23 = .ok (.iconst 0, 1) := by decide +kernel
theorem d_hc_trap_24 : decode c_hc_trap 24 = .ok (.invokevirtual 271, 3) := by decide +kernel
theorem d_hc_trap_27 : decode c_hc_trap 27 = .ok (.pop, 1) := by decide +kernel
theorem d_hc_trap_28 : decode c_hc_trap 28 = .ok (.aload_n 0, 1) := by decide +kernel
theorem d_hc_trap_29 : decode c_hc_trap 29 = .ok (.aload_n 0, 1) := by decide +kernel
theorem d_hc_trap_30 : decode c_hc_trap 30 = .ok (.invokevirtual 203, 3) := by decide +kernel
theorem d_hc_trap_33 : decode c_hc_trap 33 = .ok (.invokevirtual 274, 3) := by decide +kernel
theorem d_hc_trap_36 : decode c_hc_trap 36 = .ok (.return_, 1) := by decide +kernel
theorem d_hc_close_0 : decode c_hc_close 0 = .ok (.aload_n 0, 1) := by decide +kernel
theorem d_hc_close_1 : decode c_hc_close 1 = .ok (.iload_n 1, 1) := by decide +kernel
theorem d_hc_close_2 : decode c_hc_close 2 = .ok (.invokevirtual 147, 3) := by decide +kernel
theorem d_hc_close_5 : decode c_hc_close 5 = .ok (.ifCond .ne 13, 3) := by decide +kernel
theorem d_hc_close_8 : decode c_hc_close 8 = .ok (.new 86, 3) := by decide +kernel
theorem d_hc_close_11 : decode c_hc_close 11 = .ok (.dup, 1) := by decide +kernel
theorem d_hc_close_12 : decode c_hc_close 12 = .ok (.ldc 177, 2) := by decide +kernel
theorem d_hc_close_14 : decode c_hc_close 14 = .ok (.invokespecial 90, 3) := by decide +kernel
theorem d_hc_close_17 : decode c_hc_close 17 = .ok (.athrow, 1) := by decide +kernel
theorem d_hc_close_18 : decode c_hc_close 18 = .ok (.aload_n 0, 1) := by decide +kernel
theorem d_hc_close_19 : decode c_hc_close 19 = .ok (.getfield 27, 3) := by decide +kernel
theorem d_hc_close_22 : decode c_hc_close 22 = .ok (.iload_n 1, 1) := by decide +kernel
theorem d_hc_close_23 : decode c_hc_close 23 = .ok (.aaload, 1) := by decide +kernel
theorem d_hc_close_24 : decode c_hc_close 24 = .ok (.astore_n 2, 1) := by decide +kernel
theorem d_hc_close_25 : decode c_hc_close 25 = .ok (.aload_n 2, 1) := by decide +kernel
theorem d_hc_close_26 : decode c_hc_close 26 = .ok (.getfield 182, 3) := by decide +kernel
theorem d_hc_close_29 : decode c_hc_close 29 = .ok (.iconst 1, 1) := by decide +kernel
theorem d_hc_close_30 : decode c_hc_close 30 = .ok (.if_icmp .eq 11, 3) := by decide +kernel
theorem d_hc_close_33 : decode c_hc_close 33 = .ok (.aload_n 2, 1) := by decide +kernel
theorem d_hc_close_34 : decode c_hc_close 34 = .ok (.getfield 182, 3) := by decide +kernel
theorem d_hc_close_37 : decode c_hc_close 37 = .ok (.iconst 3, 1) := by decide +kernel
theorem d_hc_close_38 : decode c_hc_close 38 = .ok (.if_icmp .ne 14, 3) := by decide +kernel
theorem d_hc_close_41 : decode c_hc_close 41 = .ok (.new 93, 3) := by decide +kernel
theorem d_hc_close_44 : decode c_hc_close 44 = .ok (.dup, 1) := by decide +kernel
theorem d_hc_close_45 : decode c_hc_close 45 = .ok (.ldc_w 303, 3) := by decide +kernel
theorem d_hc_close_48 : decode c_hc_close 48 = .ok (.invokespecial 97, 3) := by decide +kernel
theorem d_hc_close_51 : decode c_hc_close 51 = .ok (.athrow, 1) := by decide +kernel
theorem d_hc_close_52 : decode c_hc_close 52 = .ok (.aload_n 2, 1) := by decide +kernel
theorem d_hc_close_53 : decode c_hc_close 53 = .ok (.iconst 3, 1) := by decide +kernel
theorem d_hc_close_54 : decode c_hc_close 54 = .ok (.putfield 182, 3) := by decide +kernel
theorem d_hc_close_57 : decode c_hc_close 57 = .ok (.iconst 0, 1) := by decide +kernel
theorem d_hc_close_58 : decode c_hc_close 58 = .ok (.istore_n 3, 1) := by decide +kernel
theorem d_hc_close_59 : decode c_hc_close 59 = .ok (.iconst 0, 1) := by decide +kernel
theorem d_hc_close_60 : decode c_hc_close 60 = .ok (.istore 4, 2) := by decide +kernel
theorem d_hc_close_62 : decode c_hc_close 62 = .ok (.iload 4, 2) := by decide +kernel
theorem d_hc_close_64 : decode c_hc_close 64 = .ok (.bipush 16, 2) := by decide +kernel
theorem d_hc_close_66 : decode c_hc_close 66 = .ok (.if_icmp .ge 39, 3) := by decide +kernel
theorem d_hc_close_69 : decode c_hc_close 69 = .ok (.aload_n 2, 1) := by decide +kernel
theorem d_hc_close_70 : decode c_hc_close 70 = .ok (.getfield 212, 3) := by decide +kernel
theorem d_hc_close_73 : decode c_hc_close 73 = .ok (.iload 4, 2) := by decide +kernel
theorem d_hc_close_75 : decode c_hc_close 75 = .ok (.aaload, 1) := by decide +kernel
theorem d_hc_close_76 : decode c_hc_close 76 = .ok (.getfield 242, 3) := by decide +kernel
theorem d_hc_close_79 : decode c_hc_close 79 = .ok (.getstatic 216, 3) := by decide +kernel
theorem d_hc_close_82 : decode c_hc_close 82 = .ok (.if_acmp .ne 17, 3) := by decide +kernel
theorem d_hc_close_85 : decode c_hc_close 85 = .ok (.aload_n 0, 1) := by decide +kernel
theorem d_hc_close_86 : decode c_hc_close 86 = .ok (.aload_n 2, 1) := by decide +kernel
theorem d_hc_close_87 : decode c_hc_close 87 = .ok (.getfield 212, 3) := by decide +kernel
theorem d_hc_close_90 : decode c_hc_close 90 = .ok (.iload 4, 2) := by decide +kernel
theorem d_hc_close_92 : decode c_hc_close 92 = .ok (.aaload, 1) := by decide +kernel
theorem d_hc_close_93 : decode c_hc_close 93 = .ok (.invokevirtual 245, 3) := by decide +kernel
theorem d_hc_close_96 : decode c_hc_close 96 = .ok (.iinc 3 1, 3) := by decide +kernel
theorem d_hc_close_99 : decode c_hc_close 99 = .ok (.iinc 4 1, 3) := by decide +kernel
theorem d_hc_close_102 : decode c_hc_close 102 = .ok (.goto (-40), 3) := by decide +kernel
theorem d_hc_close_105 : decode c_hc_close 105 = .ok (.iload_n 3, 1) := by decide +kernel
theorem d_hc_close_106 : decode c_hc_close 106 = .ok (.ireturn, 1) := by decide +kernel
theorem d_hc_function_0 : decode c_hc_function 0 = .ok (.aload_n 0, 1) := by decide +kernel
theorem d_hc_function_1 : decode c_hc_function 1 = .ok (.iload_n 1, 1) := by decide +kernel
theorem d_hc_function_2 : decode c_hc_function 2 = .ok (.invokevirtual 147, 3) := by decide +kernel
theorem d_hc_function_5 : decode c_hc_function 5 = .ok (.ifCond .eq 19, 3) := by decide +kernel
theorem d_hc_function_8 : decode c_hc_function 8 = .ok (.aload_n 0, 1) := by decide +kernel
theorem d_hc_function_9 : decode c_hc_function 9 = .ok (.iload_n 2, 1) := by decide +kernel
theorem d_hc_function_10 : decode c_hc_function 10 = .ok (.invokevirtual 82, 3) := by decide +kernel
theorem d_hc_function_13 : decode c_hc_function 13 = .ok (.ifCond .eq 11, 3) := by decide +kernel
theorem d_hc_function_16 : decode c_hc_function 16 = .ok (.aload_n 0, 1) := by decide +kernel
theorem d_hc_function_17 : decode c_hc_function 17 = .ok (.iload_n 3, 1) := by decide +kernel
theorem d_hc_function_18 : decode c_hc_function 18 = .ok (.invokevirtual 82, 3) := by decide +kernel
theorem d_hc_function_21 : decode c_hc_function 21 = .ok (.ifCond .ne 13, 3) := by decide +kernel
theorem d_hc_function_24 : decode c_hc_function 24 = .ok (.new 86, 3) := by decide +kernel
theorem d_hc_function_27 : decode c_hc_function 27 = .ok (.dup, 1) := by decide +kernel
theorem d_hc_function_28 : decode c_hc_function 28 = .ok (.ldc 150, 2) := by decide +kernel
theorem d_hc_function_30 : decode c_hc_function 30 = .ok (.invokespecial 90, 3) := by decide +kernel
theorem d_hc_function_33 : decode c_hc_function 33 = .ok (.athrow, 1) := by decide +kernel
theorem d_hc_function_34 : decode c_hc_function 34 = .ok (.aload_n 0, 1) := by decide +kernel
theorem d_hc_function_35 : decode c_hc_function 35 = .ok (.getfield 11, 3) := by decide +kernel
theorem d_hc_function_38 : decode c_hc_function 38 = .ok (.iload_n 3, 1) := by decide +kernel
theorem d_hc_function_39 : decode c_hc_function 39 = .ok (.aaload, 1) := by decide +kernel
theorem d_hc_function_40 : decode c_hc_function 40 = .ok (.getfield 152, 3) := by decide +kernel
theorem d_hc_function_43 : decode c_hc_function 43 = .ok (.ifCond .eq 13, 3) := by decide +kernel
theorem d_hc_function_46 : decode c_hc_function 46 = .ok (.new 156, 3) := by decide +kernel
theorem d_hc_function_49 : decode c_hc_function 49 = .ok (.dup, 1) := by decide +kernel
theorem d_hc_function_50 : decode c_hc_function 50 = .ok (.ldc 158, 2) := by decide +kernel
theorem d_hc_function_52 : decode c_hc_function 52 = .ok (.invokespecial 160, 3) := by decide +kernel
theorem d_hc_function_55 : decode c_hc_function 55 = .ok (.athrow, 1) := by decide +kernel
theorem d_hc_function_56 : decode c_hc_function 56 = .ok (.aload_n 0, 1) := by decide +kernel
theorem d_hc_function_57 : decode c_hc_function 57 = .ok (.getfield 40, 3) := by decide +kernel
theorem d_hc_function_60 : decode c_hc_function 60 = .ok (.bipush 12, 2) := by decide +kernel
theorem d_hc_function_62 : decode c_hc_function 62 = .ok (.if_icmp .lt 13, 3) := by decide +kernel
theorem d_hc_function_65 : decode c_hc_function 65 = .ok (.new 93, 3) := by decide +kernel
theorem d_hc_function_68 : decode c_hc_function 68 = .ok (.dup, 1) := by decide +kernel
theorem d_hc_function_69 : decode c_hc_function 69 = .ok (.ldc 161, 2) := by decide +kernel
theorem d_hc_function_71 : decode c_hc_function 71 = .ok (.invokespecial 97, 3) := by decide +kernel
theorem d_hc_function_74 : decode c_hc_function 74 = .ok (.athrow, 1) := by decide +kernel
theorem d_hc_function_75 : decode c_hc_function 75 = .ok (.aload_n 0, 1) := by decide +kernel
theorem d_hc_function_76 : decode c_hc_function 76 = .ok (.getfield 36, 3) := by decide +kernel
theorem d_hc_function_79 : decode c_hc_function 79 = .ok (.aload_n 0, 1) := by decide +kernel
theorem d_hc_function_80 : decode c_hc_function 80 = .ok (.getfield 40, 3) := by decide +kernel
theorem d_hc_function_83 : decode c_hc_function 83 = .ok (.new 34, 3) := by decide +kernel
theorem d_hc_function_86 : decode c_hc_function 86 = .ok (.dup, 1) := by decide +kernel
theorem d_hc_function_87 : decode c_hc_function 87 = .ok (.iload_n 1, 1) := by decide +kernel
theorem d_hc_function_88 : decode c_hc_function 88 = .ok (.aload_n 0, 1) := by decide +kernel
theorem d_hc_function_89 : decode c_hc_function 89 = .ok (.getfield 11, 3) := by decide +kernel
theorem d_hc_function_92 : decode c_hc_function 92 = .ok (.iload_n 2, 1) := by decide +kernel
theorem d_hc_function_93 : decode c_hc_function 93 = .ok (.aaload, 1) := by decide +kernel
theorem d_hc_function_94 : decode c_hc_function 94 = .ok (.aload_n 0, 1) := by decide +kernel
theorem d_hc_function_95 : decode c_hc_function 95 = .ok (.getfield 11, 3) := by decide +kernel
theorem d_hc_function_98 : decode c_hc_function 98 = .ok (.iload_n 3, 1) := by decide +kernel
theorem d_hc_function_99 : decode c_hc_function 99 = .ok (.aaload, 1) := by decide +kernel
theorem d_hc_function_100 : decode c_hc_function 100 = .ok (.invokespecial 163, 3) := by decide +kernel
theorem d_hc_function_103 : decode c_hc_function 103 = .ok (.aastore, 1) := by decide +kernel
theorem d_hc_function_104 : decode c_hc_function 104 = .ok (.aload_n 0, 1) := by decide +kernel
theorem d_hc_function_105 : decode c_hc_function 105 = .ok (.dup, 1) := by decide +kernel
theorem d_hc_function_106 : decode c_hc_function 106 = .ok (.getfield 40, 3) := by decide +kernel
theorem d_hc_function_109 : decode c_hc_function 109 = .ok (.iconst 1, 1) := by decide +kernel
theorem d_hc_function_110 : decode c_hc_function 110 = .ok (.iadd, 1) := by decide +kernel
theorem d_hc_function_111 : decode c_hc_function 111 = .ok (.putfield 40, 3) := by decide +kernel
theorem d_hc_function_114 : decode c_hc_function 114 = .ok (.aload_n 0, 1) := by decide +kernel
theorem d_hc_function_115 : decode c_hc_function 115 = .ok (.getfield 40, 3) := by decide +kernel
theorem d_hc_function_118 : decode c_hc_function 118 = .ok (.iconst 1, 1) := by decide +kernel
theorem d_hc_function_119 : decode c_hc_function 119 = .ok (.isub, 1) := by decide +kernel
theorem d_hc_function_120 : decode c_hc_function 120 = .ok (.ireturn, 1) := by decide +kernel
theorem d_hc_instance_0 : decode c_hc_instance 0 = .ok (.aload_n 0, 1) := by decide +kernel
theorem d_hc_instance_1 : decode c_hc_instance 1 = .ok (.getfield 31, 3) := by decide +kernel
theorem d_hc_instance_4 : decode c_hc_instance 4 = .ok (.bipush 6, 2) := by decide +kernel
theorem d_hc_instance_6 : decode c_hc_instance 6 = .ok (.if_icmp .lt 13, 3) := by decide +kernel
theorem d_hc_instance_9 : decode c_hc_instance 9 = .ok (.new 93, 3) := by decide +kernel
theorem d_hc_instance_12 : decode c_hc_instance 12 = .ok (.dup, 1) := by decide +kernel
theorem d_hc_instance_13 : decode c_hc_instance 13 = .ok (.ldc 144, 2) := by decide +kernel
theorem d_hc_instance_15 : decode c_hc_instance 15 = .ok (.invokespecial 97, 3) := by decide +kernel
theorem d_hc_instance_18 : decode c_hc_instance 18 = .ok (.athrow, 1) := by decide +kernel
theorem d_hc_instance_19 : decode c_hc_instance 19 = .ok (.aload_n 0, 1) := by decide +kernel
theorem d_hc_instance_20 : decode c_hc_instance 20 = .ok (.getfield 27, 3) := by decide +kernel
theorem d_hc_instance_23 : decode c_hc_instance 23 = .ok (.aload_n 0, 1) := by decide +kernel
theorem d_hc_instance_24 : decode c_hc_instance 24 = .ok (.getfield 31, 3) := by decide +kernel
theorem d_hc_instance_27 : decode c_hc_instance 27 = .ok (.new 25, 3) := by decide +kernel
theorem d_hc_instance_30 : decode c_hc_instance 30 = .ok (.dup, 1) := by decide +kernel
theorem d_hc_instance_31 : decode c_hc_instance 31 = .ok (.invokespecial 146, 3) := by decide +kernel
theorem d_hc_instance_34 : decode c_hc_instance 34 = .ok (.aastore, 1) := by decide +kernel
theorem d_hc_instance_35 : decode c_hc_instance 35 = .ok (.aload_n 0, 1) := by decide +kernel
theorem d_hc_instance_36 : decode c_hc_instance 36 = .ok (.dup, 1) := by decide +kernel
theorem d_hc_instance_37 : decode c_hc_instance 37 = .ok (.getfield 31, 3) := by decide +kernel
theorem d_hc_instance_40 : decode c_hc_instance 40 = .ok (.iconst 1, 1) := by decide +kernel
theorem d_hc_instance_41 : decode c_hc_instance 41 = .ok (.iadd, 1) := by decide +kernel
theorem d_hc_instance_42 : decode c_hc_instance 42 = .ok (.putfield 31, 3) := by decide +kernel
theorem d_hc_instance_45 : decode c_hc_instance 45 = .ok (.aload_n 0, 1) := by decide +kernel
theorem d_hc_instance_46 : decode c_hc_instance 46 = .ok (.getfield 31, 3) := by decide +kernel
theorem d_hc_instance_49 : decode c_hc_instance 49 = .ok (.iconst 1, 1) := by decide +kernel
theorem d_hc_instance_50 : decode c_hc_instance 50 = .ok (.isub, 1) := by decide +kernel
theorem d_hc_instance_51 : decode c_hc_instance 51 = .ok (.ireturn, 1) := by decide +kernel
theorem d_hc_type_0 : decode c_hc_type 0 = .ok (.iload_n 1, 1) := by decide +kernel
theorem d_hc_type_1 : decode c_hc_type 1 = .ok (.invokestatic 98, 3) := by decide +kernel
theorem d_hc_type_4 : decode c_hc_type 4 = .ok (.ifCond .eq 19, 3) := by decide +kernel
theorem d_hc_type_7 : decode c_hc_type 7 = .ok (.aload_n 0, 1) := by decide +kernel
theorem d_hc_type_8 : decode c_hc_type 8 = .ok (.iload_n 1, 1) := by decide +kernel
theorem d_hc_type_9 : decode c_hc_type 9 = .ok (.invokevirtual 101, 3) := by decide +kernel
theorem d_hc_type_12 : decode c_hc_type 12 = .ok (.ifCond .eq 11, 3) := by decide +kernel
theorem d_hc_type_15 : decode c_hc_type 15 = .ok (.iload_n 1, 1) := by decide +kernel
theorem d_hc_type_16 : decode c_hc_type 16 = .ok (.iload_n 2, 1) := by decide +kernel
theorem d_hc_type_17 : decode c_hc_type 17 = .ok (.invokestatic 104, 3) := by decide +kernel
theorem d_hc_type_20 : decode c_hc_type 20 = .ok (.ifCond .ne 13, 3) := by decide +kernel
theorem d_hc_type_23 : decode c_hc_type 23 = .ok (.new 86, 3) := by decide +kernel
theorem d_hc_type_26 : decode c_hc_type 26 = .ok (.dup, 1) := by decide +kernel
theorem d_hc_type_27 : decode c_hc_type 27 = .ok (.ldc 108, 2) := by decide +kernel
theorem d_hc_type_29 : decode c_hc_type 29 = .ok (.invokespecial 90, 3) := by decide +kernel
theorem d_hc_type_32 : decode c_hc_type 32 = .ok (.athrow, 1) := by decide +kernel
theorem d_hc_type_33 : decode c_hc_type 33 = .ok (.new 9, 3) := by decide +kernel
theorem d_hc_type_36 : decode c_hc_type 36 = .ok (.dup, 1) := by decide +kernel
theorem d_hc_type_37 : decode c_hc_type 37 = .ok (.iload_n 1, 1) := by decide +kernel
theorem d_hc_type_38 : decode c_hc_type 38 = .ok (.iload_n 2, 1) := by decide +kernel
theorem d_hc_type_39 : decode c_hc_type 39 = .ok (.aload_n 0, 1) := by decide +kernel
theorem d_hc_type_40 : decode c_hc_type 40 = .ok (.getfield 19, 3) := by decide +kernel
theorem d_hc_type_43 : decode c_hc_type 43 = .ok (.aload_n 0, 1) := by decide +kernel
theorem d_hc_type_44 : decode c_hc_type 44 = .ok (.getfield 22, 3) := by decide +kernel
theorem d_hc_type_47 : decode c_hc_type 47 = .ok (.invokespecial 110, 3) := by decide +kernel
theorem d_hc_type_50 : decode c_hc_type 50 = .ok (.astore_n 3, 1) := by decide +kernel
theorem d_hc_type_51 : decode c_hc_type 51 = .ok (.aload_n 3, 1) := by decide +kernel
theorem d_hc_type_52 : decode c_hc_type 52 = .ok (.getfield 113, 3) := by decide +kernel
theorem d_hc_type_55 : decode c_hc_type 55 = .ok (.iconst 5, 1) := by decide +kernel
theorem d_hc_type_56 : decode c_hc_type 56 = .ok (.if_icmp .gt 12, 3) := by decide +kernel
theorem d_hc_type_59 : decode c_hc_type 59 = .ok (.aload_n 3, 1) := by decide +kernel
theorem d_hc_type_60 : decode c_hc_type 60 = .ok (.getfield 116, 3) := by decide +kernel
theorem d_hc_type_63 : decode c_hc_type 63 = .ok (.bipush 96, 2) := by decide +kernel
theorem d_hc_type_65 : decode c_hc_type 65 = .ok (.if_icmp .le 13, 3) := by decide +kernel
theorem d_hc_type_68 : decode c_hc_type 68 = .ok (.new 86, 3) := by decide +kernel
theorem d_hc_type_71 : decode c_hc_type 71 = .ok (.dup, 1) := by decide +kernel
theorem d_hc_type_72 : decode c_hc_type 72 = .ok (.ldc 119, 2) := by decide +kernel
theorem d_hc_type_74 : decode c_hc_type 74 = .ok (.invokespecial 90, 3) := by decide +kernel
theorem d_hc_type_77 : decode c_hc_type 77 = .ok (.athrow, 1) := by decide +kernel
theorem d_hc_type_78 : decode c_hc_type 78 = .ok (.aload_n 0, 1) := by decide +kernel
theorem d_hc_type_79 : decode c_hc_type 79 = .ok (.getfield 15, 3) := by decide +kernel
theorem d_hc_type_82 : decode c_hc_type 82 = .ok (.bipush 32, 2) := by decide +kernel
theorem d_hc_type_84 : decode c_hc_type 84 = .ok (.if_icmp .lt 13, 3) := by decide +kernel
theorem d_hc_type_87 : decode c_hc_type 87 = .ok (.new 93, 3) := by decide +kernel
theorem d_hc_type_90 : decode c_hc_type 90 = .ok (.dup, 1) := by decide +kernel
theorem d_hc_type_91 : decode c_hc_type 91 = .ok (.ldc 121, 2) := by decide +kernel
theorem d_hc_type_93 : decode c_hc_type 93 = .ok (.invokespecial 97, 3) := by decide +kernel
theorem d_hc_type_96 : decode c_hc_type 96 = .ok (.athrow, 1) := by decide +kernel
theorem d_hc_type_97 : decode c_hc_type 97 = .ok (.aload_n 0, 1) := by decide +kernel
theorem d_hc_type_98 : decode c_hc_type 98 = .ok (.getfield 11, 3) := by decide +kernel
theorem d_hc_type_101 : decode c_hc_type 101 = .ok (.aload_n 0, 1) := by decide +kernel
theorem d_hc_type_102 : decode c_hc_type 102 = .ok (.getfield 15, 3) := by decide +kernel
theorem d_hc_type_105 : decode c_hc_type 105 = .ok (.aload_n 3, 1) := by decide +kernel
theorem d_hc_type_106 : decode c_hc_type 106 = .ok (.aastore, 1) := by decide +kernel
theorem d_hc_type_107 : decode c_hc_type 107 = .ok (.aload_n 0, 1) := by decide +kernel
theorem d_hc_type_108 : decode c_hc_type 108 = .ok (.dup, 1) := by decide +kernel
theorem d_hc_type_109 : decode c_hc_type 109 = .ok (.getfield 15, 3) := by decide +kernel
theorem d_hc_type_112 : decode c_hc_type 112 = .ok (.iconst 1, 1) := by decide +kernel
theorem d_hc_type_113 : decode c_hc_type 113 = .ok (.iadd, 1) := by decide +kernel
theorem d_hc_type_114 : decode c_hc_type 114 = .ok (.putfield 15, 3) := by decide +kernel
theorem d_hc_type_117 : decode c_hc_type 117 = .ok (.aload_n 0, 1) := by decide +kernel
theorem d_hc_type_118 : decode c_hc_type 118 = .ok (.iconst 0, 1) := by decide +kernel
theorem d_hc_type_119 : decode c_hc_type 119 = .ok (.putfield 22, 3) := by decide +kernel
theorem d_hc_type_122 : decode c_hc_type 122 = .ok (.aload_n 0, 1) := by decide +kernel
theorem d_hc_type_123 : decode c_hc_type 123 = .ok (.getfield 15, 3) := by decide +kernel
theorem d_hc_type_126 : decode c_hc_type 126 = .ok (.iconst 1, 1) := by decide +kernel
theorem d_hc_type_127 : decode c_hc_type 127 = .ok (.isub, 1) := by decide +kernel
theorem d_hc_type_128 : decode c_hc_type 128 = .ok (.ireturn, 1) := by decide +kernel
theorem d_hc_call_0 : decode c_hc_call 0 = .ok (.aload_n 0, 1) := by decide +kernel
theorem d_hc_call_1 : decode c_hc_call 1 = .ok (.getfield 53, 3) := by decide +kernel
theorem d_hc_call_4 : decode c_hc_call 4 = .ok (.ifCond .ne 13, 3) := by decide +kernel
theorem d_hc_call_7 : decode c_hc_call 7 = .ok (.new 93, 3) := by decide +kernel
theorem d_hc_call_10 : decode c_hc_call 10 = .ok (.dup, 1) := by decide +kernel
theorem d_hc_call_11 : decode c_hc_call 11 = .ok (.ldc 196, 2) := by decide +kernel
theorem d_hc_call_13 : decode c_hc_call 13 = .ok (.invokespecial 97, 3) := by decide +kernel
theorem d_hc_call_16 : decode c_hc_call 16 = .ok (.athrow, 1) := by decide +kernel
theorem d_hc_call_17 : decode c_hc_call 17 = .ok (.iload_n 1, 1) := by decide +kernel
theorem d_hc_call_18 : decode c_hc_call 18 = .ok (.ifCond .lt 19, 3) := by decide +kernel
theorem d_hc_call_21 : decode c_hc_call 21 = .ok (.iload_n 1, 1) := by decide +kernel
theorem d_hc_call_22 : decode c_hc_call 22 = .ok (.aload_n 0, 1) := by decide +kernel
theorem d_hc_call_23 : decode c_hc_call 23 = .ok (.getfield 40, 3) := by decide +kernel
theorem d_hc_call_26 : decode c_hc_call 26 = .ok (.if_icmp .ge 11, 3) := by decide +kernel
theorem d_hc_call_29 : decode c_hc_call 29 = .ok (.aload_n 0, 1) := by decide +kernel
theorem d_hc_call_30 : decode c_hc_call 30 = .ok (.iload_n 2, 1) := by decide +kernel
theorem d_hc_call_31 : decode c_hc_call 31 = .ok (.invokevirtual 82, 3) := by decide +kernel
theorem d_hc_call_34 : decode c_hc_call 34 = .ok (.ifCond .ne 14, 3) := by decide +kernel
theorem d_hc_call_37 : decode c_hc_call 37 = .ok (.new 86, 3) := by decide +kernel
theorem d_hc_call_40 : decode c_hc_call 40 = .ok (.dup, 1) := by decide +kernel
theorem d_hc_call_41 : decode c_hc_call 41 = .ok (.ldc_w 258, 3) := by decide +kernel
theorem d_hc_call_44 : decode c_hc_call 44 = .ok (.invokespecial 90, 3) := by decide +kernel
theorem d_hc_call_47 : decode c_hc_call 47 = .ok (.athrow, 1) := by decide +kernel
theorem d_hc_call_48 : decode c_hc_call 48 = .ok (.aload_n 0, 1) := by decide +kernel
theorem d_hc_call_49 : decode c_hc_call 49 = .ok (.getfield 36, 3) := by decide +kernel
theorem d_hc_call_52 : decode c_hc_call 52 = .ok (.iload_n 1, 1) := by decide +kernel
theorem d_hc_call_53 : decode c_hc_call 53 = .ok (.aaload, 1) := by decide +kernel
theorem d_hc_call_54 : decode c_hc_call 54 = .ok (.astore 4, 2) := by decide +kernel
theorem d_hc_call_56 : decode c_hc_call 56 = .ok (.aload_n 0, 1) := by decide +kernel
theorem d_hc_call_57 : decode c_hc_call 57 = .ok (.getfield 11, 3) := by decide +kernel
theorem d_hc_call_60 : decode c_hc_call 60 = .ok (.iload_n 2, 1) := by decide +kernel
theorem d_hc_call_61 : decode c_hc_call 61 = .ok (.aaload, 1) := by decide +kernel
theorem d_hc_call_62 : decode c_hc_call 62 = .ok (.aload 4, 2) := by decide +kernel
theorem d_hc_call_64 : decode c_hc_call 64 = .ok (.getfield 260, 3) := by decide +kernel
theorem d_hc_call_67 : decode c_hc_call 67 = .ok (.invokestatic 140, 3) := by decide +kernel
theorem d_hc_call_70 : decode c_hc_call 70 = .ok (.ifCond .eq 14, 3) := by decide +kernel
theorem d_hc_call_73 : decode c_hc_call 73 = .ok (.new 156, 3) := by decide +kernel
theorem d_hc_call_76 : decode c_hc_call 76 = .ok (.dup, 1) := by decide +kernel
theorem d_hc_call_77 : decode c_hc_call 77 = .ok (.ldc_w 264, 3) := by decide +kernel
theorem d_hc_call_80 : decode c_hc_call 80 = .ok (.invokespecial 160, 3) := by decide +kernel
theorem d_hc_call_83 : decode c_hc_call 83 = .ok (.athrow, 1) := by decide +kernel
theorem d_hc_call_84 : decode c_hc_call 84 = .ok (.aload_n 0, 1) := by decide +kernel
theorem d_hc_call_85 : decode c_hc_call 85 = .ok (.getfield 27, 3) := by decide +kernel
theorem d_hc_call_88 : decode c_hc_call 88 = .ok (.aload 4, 2) := by decide +kernel
theorem d_hc_call_90 : decode c_hc_call 90 = .ok (.getfield 266, 3) := by decide +kernel
theorem d_hc_call_93 : decode c_hc_call 93 = .ok (.aaload, 1) := by decide +kernel
theorem d_hc_call_94 : decode c_hc_call 94 = .ok (.getfield 182, 3) := by decide +kernel
theorem d_hc_call_97 : decode c_hc_call 97 = .ok (.istore 5, 2) := by decide +kernel
theorem d_hc_call_99 : decode c_hc_call 99 = .ok (.iload 5, 2) := by decide +kernel
theorem d_hc_call_101 : decode c_hc_call 101 = .ok (.iconst 2, 1) := by decide +kernel
theorem d_hc_call_102 : decode c_hc_call 102 = .ok (.if_icmp .eq 9, 3) := by decide +kernel
theorem d_hc_call_105 : decode c_hc_call 105 = .ok (.iload 5, 2) := by decide +kernel
theorem d_hc_call_107 : decode c_hc_call 107 = .ok (.iconst 3, 1) := by decide +kernel
theorem d_hc_call_108 : decode c_hc_call 108 = .ok (.if_icmp .ne 14, 3) := by decide +kernel
theorem d_hc_call_111 : decode c_hc_call 111 = .ok (.new 232, 3) := by decide +kernel
theorem d_hc_call_114 : decode c_hc_call 114 = .ok (.dup, 1) := by decide +kernel
theorem d_hc_call_115 : decode c_hc_call 115 = .ok (.ldc_w 269, 3) := by decide +kernel
theorem d_hc_call_118 : decode c_hc_call 118 = .ok (.invokespecial 236, 3) := by decide +kernel
theorem d_hc_call_121 : decode c_hc_call 121 = .ok (.athrow, 1) := by decide +kernel
theorem d_hc_call_122 : decode c_hc_call 122 = .ok (.iload 5, 2) := by decide +kernel
theorem d_hc_call_124 : decode c_hc_call 124 = .ok (.iconst 1, 1) := by decide +kernel
theorem d_hc_call_125 : decode c_hc_call 125 = .ok (.if_icmp .ne 25, 3) := by decide +kernel
theorem d_hc_call_128 : decode c_hc_call 128 = .ok (.aload_n 0, 1) := by decide +kernel
theorem d_hc_call_129 : decode c_hc_call 129 = .ok (.getfield 75, 3) := by decide +kernel
theorem d_hc_call_132 : decode c_hc_call 132 = .ok (.bipush 14, 2) := by decide +kernel
theorem d_hc_call_134 : decode c_hc_call 134 = .ok (.iload_n 3, 1) := by decide +kernel
theorem d_hc_call_135 : decode c_hc_call 135 = .ok (.invokevirtual 271, 3) := by decide +kernel
theorem d_hc_call_138 : decode c_hc_call 138 = .ok (.pop, 1) := by decide +kernel
theorem d_hc_call_139 : decode c_hc_call 139 = .ok (.aload_n 0, 1) := by decide +kernel
theorem d_hc_call_140 : decode c_hc_call 140 = .ok (.aload_n 0, 1) := by decide +kernel
theorem d_hc_call_141 : decode c_hc_call 141 = .ok (.invokevirtual 203, 3) := by decide +kernel
theorem d_hc_call_144 : decode c_hc_call 144 = .ok (.invokevirtual 274, 3) := by decide +kernel
theorem d_hc_call_147 : decode c_hc_call 147 = .ok (.bipush 14, 2) := by decide +kernel
theorem d_hc_call_149 : decode c_hc_call 149 = .ok (.ireturn, 1) := by decide +kernel
theorem d_hc_call_150 : decode c_hc_call 150 = .ok (.aload_n 0, 1) := by decide +kernel
theorem d_hc_call_151 : decode c_hc_call 151 = .ok (.aload_n 0, 1) := by decide +kernel
theorem d_hc_call_152 : decode c_hc_call 152 = .ok (.getfield 11, 3) := by decide +kernel
theorem d_hc_call_155 : decode c_hc_call 155 = .ok (.iload_n 2, 1) := by decide +kernel
theorem d_hc_call_156 : decode c_hc_call 156 = .ok (.aaload, 1) := by decide +kernel
theorem d_hc_call_157 : decode c_hc_call 157 = .ok (.aload 4, 2) := by decide +kernel
theorem d_hc_call_159 : decode c_hc_call 159 = .ok (.getfield 260, 3) := by decide +kernel
theorem d_hc_call_162 : decode c_hc_call 162 = .ok (.iload_n 3, 1) := by decide +kernel
theorem d_hc_call_163 : decode c_hc_call 163 = .ok (.aload 4, 2) := by decide +kernel
theorem d_hc_call_165 : decode c_hc_call 165 = .ok (.getfield 266, 3) := by decide +kernel
theorem d_hc_call_168 : decode c_hc_call 168 = .ok (.invokevirtual 278, 3) := by decide +kernel
theorem d_hc_call_171 : decode c_hc_call 171 = .ok (.istore 6, 2) := by decide +kernel
theorem d_hc_call_173 : decode c_hc_call 173 = .ok (.iload 6, 2) := by decide +kernel
theorem d_hc_call_175 : decode c_hc_call 175 = .ok (.iconst (-1), 1) := by decide +kernel
theorem d_hc_call_176 : decode c_hc_call 176 = .ok (.if_icmp .ne 11, 3) := by decide +kernel
theorem d_hc_call_179 : decode c_hc_call 179 = .ok (.aload_n 0, 1) := by decide +kernel
theorem d_hc_call_180 : decode c_hc_call 180 = .ok (.getfield 75, 3) := by decide +kernel
theorem d_hc_call_183 : decode c_hc_call 183 = .ok (.getfield 282, 3) := by decide +kernel
theorem d_hc_call_186 : decode c_hc_call 186 = .ok (.ireturn, 1) := by decide +kernel
theorem d_hc_call_187 : decode c_hc_call 187 = .ok (.aload_n 0, 1) := by decide +kernel
theorem d_hc_call_188 : decode c_hc_call 188 = .ok (.aload 4, 2) := by decide +kernel
theorem d_hc_call_190 : decode c_hc_call 190 = .ok (.getfield 266, 3) := by decide +kernel
theorem d_hc_call_193 : decode c_hc_call 193 = .ok (.iload_n 1, 1) := by decide +kernel
theorem d_hc_call_194 : decode c_hc_call 194 = .ok (.iload 6, 2) := by decide +kernel
theorem d_hc_call_196 : decode c_hc_call 196 = .ok (.invokevirtual 187, 3) := by decide +kernel
theorem d_hc_call_199 : decode c_hc_call 199 = .ok (.iconst 0, 1) := by decide +kernel
theorem d_hc_call_200 : decode c_hc_call 200 = .ok (.ireturn, 1) := by decide +kernel
theorem d_hc_back_0 : decode c_hc_back 0 = .ok (.aload_n 0, 1) := by decide +kernel
theorem d_hc_back_1 : decode c_hc_back 1 = .ok (.getfield 53, 3) := by decide +kernel
theorem d_hc_back_4 : decode c_hc_back 4 = .ok (.iconst 2, 1) := by decide +kernel
theorem d_hc_back_5 : decode c_hc_back 5 = .ok (.if_icmp .ge 14, 3) := by decide +kernel
theorem d_hc_back_8 : decode c_hc_back 8 = .ok (.new 93, 3) := by decide +kernel
theorem d_hc_back_11 : decode c_hc_back 11 = .ok (.dup, 1) := by decide +kernel
theorem d_hc_back_12 : decode c_hc_back 12 = .ok (.ldc_w 285, 3) := by decide +kernel
theorem d_hc_back_15 : decode c_hc_back 15 = .ok (.invokespecial 97, 3) := by decide +kernel
theorem d_hc_back_18 : decode c_hc_back 18 = .ok (.athrow, 1) := by decide +kernel
theorem d_hc_back_19 : decode c_hc_back 19 = .ok (.aload_n 0, 1) := by decide +kernel
theorem d_hc_back_20 : decode c_hc_back 20 = .ok (.iload_n 1, 1) := by decide +kernel
theorem d_hc_back_21 : decode c_hc_back 21 = .ok (.invokevirtual 82, 3) := by decide +kernel
theorem d_hc_back_24 : decode c_hc_back 24 = .ok (.ifCond .ne 13, 3) := by decide +kernel
theorem d_hc_back_27 : decode c_hc_back 27 = .ok (.new 86, 3) := by decide +kernel
theorem d_hc_back_30 : decode c_hc_back 30 = .ok (.dup, 1) := by decide +kernel
theorem d_hc_back_31 : decode c_hc_back 31 = .ok (.ldc 88, 2) := by decide +kernel
theorem d_hc_back_33 : decode c_hc_back 33 = .ok (.invokespecial 90, 3) := by decide +kernel
theorem d_hc_back_36 : decode c_hc_back 36 = .ok (.athrow, 1) := by decide +kernel
theorem d_hc_back_37 : decode c_hc_back 37 = .ok (.aload_n 0, 1) := by decide +kernel
theorem d_hc_back_38 : decode c_hc_back 38 = .ok (.getfield 36, 3) := by decide +kernel
theorem d_hc_back_41 : decode c_hc_back 41 = .ok (.aload_n 0, 1) := by decide +kernel
theorem d_hc_back_42 : decode c_hc_back 42 = .ok (.getfield 47, 3) := by decide +kernel
theorem d_hc_back_45 : decode c_hc_back 45 = .ok (.aload_n 0, 1) := by decide +kernel
theorem d_hc_back_46 : decode c_hc_back 46 = .ok (.getfield 53, 3) := by decide +kernel
theorem d_hc_back_49 : decode c_hc_back 49 = .ok (.iconst 1, 1) := by decide +kernel
theorem d_hc_back_50 : decode c_hc_back 50 = .ok (.isub, 1) := by decide +kernel
theorem d_hc_back_51 : decode c_hc_back 51 = .ok (.iaload, 1) := by decide +kernel
theorem d_hc_back_52 : decode c_hc_back 52 = .ok (.aaload, 1) := by decide +kernel
theorem d_hc_back_53 : decode c_hc_back 53 = .ok (.getfield 287, 3) := by decide +kernel
theorem d_hc_back_56 : decode c_hc_back 56 = .ok (.astore_n 3, 1) := by decide +kernel
theorem d_hc_back_57 : decode c_hc_back 57 = .ok (.aload_n 0, 1) := by decide +kernel
theorem d_hc_back_58 : decode c_hc_back 58 = .ok (.getfield 11, 3) := by decide +kernel
theorem d_hc_back_61 : decode c_hc_back 61 = .ok (.iload_n 1, 1) := by decide +kernel
theorem d_hc_back_62 : decode c_hc_back 62 = .ok (.aaload, 1) := by decide +kernel
theorem d_hc_back_63 : decode c_hc_back 63 = .ok (.aload_n 3, 1) := by decide +kernel
theorem d_hc_back_64 : decode c_hc_back 64 = .ok (.invokestatic 140, 3) := by decide +kernel
theorem d_hc_back_67 : decode c_hc_back 67 = .ok (.ifCond .eq 14, 3) := by decide +kernel
theorem d_hc_back_70 : decode c_hc_back 70 = .ok (.new 156, 3) := by decide +kernel
theorem d_hc_back_73 : decode c_hc_back 73 = .ok (.dup, 1) := by decide +kernel
theorem d_hc_back_74 : decode c_hc_back 74 = .ok (.ldc_w 290, 3) := by decide +kernel
theorem d_hc_back_77 : decode c_hc_back 77 = .ok (.invokespecial 160, 3) := by decide +kernel
theorem d_hc_back_80 : decode c_hc_back 80 = .ok (.athrow, 1) := by decide +kernel
theorem d_hc_back_81 : decode c_hc_back 81 = .ok (.aload_n 0, 1) := by decide +kernel
theorem d_hc_back_82 : decode c_hc_back 82 = .ok (.aload_n 0, 1) := by decide +kernel
theorem d_hc_back_83 : decode c_hc_back 83 = .ok (.getfield 11, 3) := by decide +kernel
theorem d_hc_back_86 : decode c_hc_back 86 = .ok (.iload_n 1, 1) := by decide +kernel
theorem d_hc_back_87 : decode c_hc_back 87 = .ok (.aaload, 1) := by decide +kernel
theorem d_hc_back_88 : decode c_hc_back 88 = .ok (.aload_n 3, 1) := by decide +kernel
theorem d_hc_back_89 : decode c_hc_back 89 = .ok (.iload_n 2, 1) := by decide +kernel
theorem d_hc_back_90 : decode c_hc_back 90 = .ok (.aload_n 0, 1) := by decide +kernel
theorem d_hc_back_91 : decode c_hc_back 91 = .ok (.getfield 43, 3) := by decide +kernel
theorem d_hc_back_94 : decode c_hc_back 94 = .ok (.aload_n 0, 1) := by decide +kernel
theorem d_hc_back_95 : decode c_hc_back 95 = .ok (.getfield 53, 3) := by decide +kernel
theorem d_hc_back_98 : decode c_hc_back 98 = .ok (.iconst 2, 1) := by decide +kernel
theorem d_hc_back_99 : decode c_hc_back 99 = .ok (.isub, 1) := by decide +kernel
theorem d_hc_back_100 : decode c_hc_back 100 = .ok (.iaload, 1) := by decide +kernel
theorem d_hc_back_101 : decode c_hc_back 101 = .ok (.invokevirtual 278, 3) := by decide +kernel
theorem d_hc_back_104 : decode c_hc_back 104 = .ok (.istore 4, 2) := by decide +kernel
theorem d_hc_back_106 : decode c_hc_back 106 = .ok (.iload 4, 2) := by decide +kernel
theorem d_hc_back_108 : decode c_hc_back 108 = .ok (.iconst (-1), 1) := by decide +kernel
theorem d_hc_back_109 : decode c_hc_back 109 = .ok (.if_icmp .ne 11, 3) := by decide +kernel
theorem d_hc_back_112 : decode c_hc_back 112 = .ok (.aload_n 0, 1) := by decide +kernel
theorem d_hc_back_113 : decode c_hc_back 113 = .ok (.getfield 75, 3) := by decide +kernel
theorem d_hc_back_116 : decode c_hc_back 116 = .ok (.getfield 282, 3) := by decide +kernel
theorem d_hc_back_119 : decode c_hc_back 119 = .ok (.ireturn, 1) := by decide +kernel
theorem d_hc_back_120 : decode c_hc_back 120 = .ok (.aload_n 0, 1) := by decide +kernel
theorem d_hc_back_121 : decode c_hc_back 121 = .ok (.getfield 27, 3) := by decide +kernel
theorem d_hc_back_124 : decode c_hc_back 124 = .ok (.aload_n 0, 1) := by decide +kernel
theorem d_hc_back_125 : decode c_hc_back 125 = .ok (.invokevirtual 203, 3) := by decide +kernel
theorem d_hc_back_128 : decode c_hc_back 128 = .ok (.aaload, 1) := by decide +kernel
theorem d_hc_back_129 : decode c_hc_back 129 = .ok (.invokevirtual 292, 3) := by decide +kernel
theorem d_hc_back_132 : decode c_hc_back 132 = .ok (.aload_n 0, 1) := by decide +kernel
theorem d_hc_back_133 : decode c_hc_back 133 = .ok (.invokevirtual 193, 3) := by decide +kernel
theorem d_hc_back_136 : decode c_hc_back 136 = .ok (.aload_n 0, 1) := by decide +kernel
theorem d_hc_back_137 : decode c_hc_back 137 = .ok (.getfield 50, 3) := by decide +kernel
theorem d_hc_back_140 : decode c_hc_back 140 = .ok (.aload_n 0, 1) := by decide +kernel
theorem d_hc_back_141 : decode c_hc_back 141 = .ok (.getfield 53, 3) := by decide +kernel
theorem d_hc_back_144 : decode c_hc_back 144 = .ok (.iconst 1, 1) := by decide +kernel
theorem d_hc_back_145 : decode c_hc_back 145 = .ok (.isub, 1) := by decide +kernel
theorem d_hc_back_146 : decode c_hc_back 146 = .ok (.iload 4, 2) := by decide +kernel
theorem d_hc_back_148 : decode c_hc_back 148 = .ok (.iastore, 1) := by decide +kernel
theorem d_hc_back_149 : decode c_hc_back 149 = .ok (.iconst 0, 1) := by decide +kernel
theorem d_hc_back_150 : decode c_hc_back 150 = .ok (.ireturn, 1) := by decide +kernel
