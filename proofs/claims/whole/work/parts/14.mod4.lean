theorem d_mo_write_0 : decode c_mo_write 0 = .ok (.aload_n 0, 1) := by decide +kernel
theorem d_mo_write_1 : decode c_mo_write 1 = .ok (.aload_n 0, 1) := by decide +kernel
theorem d_mo_write_2 : decode c_mo_write 2 = .ok (.iload_n 1, 1) := by decide +kernel
theorem d_mo_write_3 : decode c_mo_write 3 = .ok (.invokevirtual 197, 3) := by decide +kernel
theorem d_mo_write_6 : decode c_mo_write 6 = .ok (.ifCond .eq 14, 3) := by decide +kernel
theorem d_mo_write_9 : decode c_mo_write 9 = .ok (.iload_n 3, 1) := by decide +kernel
theorem d_mo_write_10 : decode c_mo_write 10 = .ok (.iconst 1, 1) := by decide +kernel
theorem d_mo_write_11 : decode c_mo_write 11 = .ok (.if_icmp .lt 9, 3) := by decide +kernel
theorem d_mo_write_14 : decode c_mo_write 14 = .ok (.iload_n 3, 1) := by decide +kernel
theorem d_mo_write_15 : decode c_mo_write 15 = .ok (.bipush 8, 2) := by decide +kernel
theorem d_mo_write_17 : decode c_mo_write 17 = .ok (.if_icmp .le 7, 3) := by decide +kernel
theorem d_mo_write_20 : decode c_mo_write 20 = .ok (.iconst 1, 1) := by decide +kernel
theorem d_mo_write_21 : decode c_mo_write 21 = .ok (.goto 19, 3) := by decide +kernel
theorem d_mo_write_24 : decode c_mo_write 24 = .ok (.iload_n 2, 1) := by decide +kernel
theorem d_mo_write_25 : decode c_mo_write 25 = .ok (.ifCond .lt 10, 3) := by decide +kernel
theorem d_mo_write_28 : decode c_mo_write 28 = .ok (.iload_n 2, 1) := by decide +kernel
theorem d_mo_write_29 : decode c_mo_write 29 = .ok (.sipush 255, 3) := by decide +kernel
theorem d_mo_write_32 : decode c_mo_write 32 = .ok (.if_icmp .le 7, 3) := by decide +kernel
theorem d_mo_write_35 : decode c_mo_write 35 = .ok (.iconst 2, 1) := by decide +kernel
theorem d_mo_write_36 : decode c_mo_write 36 = .ok (.goto 4, 3) := by decide +kernel
theorem d_mo_write_39 : decode c_mo_write 39 = .ok (.iconst 0, 1) := by decide +kernel
theorem d_mo_write_40 : decode c_mo_write 40 = .ok (.invokevirtual 157, 3) := by decide +kernel
theorem d_mo_write_43 : decode c_mo_write 43 = .ok (.ifCond .eq 4, 3) := by decide +kernel
theorem d_mo_write_46 : decode c_mo_write 46 = .ok (.return_, 1) := by decide +kernel
theorem d_mo_write_47 : decode c_mo_write 47 = .ok (.iconst 0, 1) := by decide +kernel
theorem d_mo_write_48 : decode c_mo_write 48 = .ok (.istore 6, 2) := by decide +kernel
theorem d_mo_write_50 : decode c_mo_write 50 = .ok (.iload 6, 2) := by decide +kernel
theorem d_mo_write_52 : decode c_mo_write 52 = .ok (.iload_n 3, 1) := by decide +kernel
theorem d_mo_write_53 : decode c_mo_write 53 = .ok (.if_icmp .ge 47, 3) := by decide +kernel
theorem d_mo_write_56 : decode c_mo_write 56 = .ok (.iload_n 2, 1) := by decide +kernel
theorem d_mo_write_57 : decode c_mo_write 57 = .ok (.iload 6, 2) := by decide +kernel
theorem d_mo_write_59 : decode c_mo_write 59 = .ok (.iadd, 1) := by decide +kernel
theorem d_mo_write_60 : decode c_mo_write 60 = .ok (.sipush 256, 3) := by decide +kernel
theorem d_mo_write_63 : decode c_mo_write 63 = .ok (.if_icmp .ge 37, 3) := by decide +kernel
theorem d_mo_write_66 : decode c_mo_write 66 = .ok (.aload_n 0, 1) := by decide +kernel
theorem d_mo_write_67 : decode c_mo_write 67 = .ok (.getfield 37, 3) := by decide +kernel
theorem d_mo_write_70 : decode c_mo_write 70 = .ok (.sipush 256, 3) := by decide +kernel
theorem d_mo_write_73 : decode c_mo_write 73 = .ok (.iload_n 1, 1) := by decide +kernel
theorem d_mo_write_74 : decode c_mo_write 74 = .ok (.imul, 1) := by decide +kernel
theorem d_mo_write_75 : decode c_mo_write 75 = .ok (.iload_n 2, 1) := by decide +kernel
theorem d_mo_write_76 : decode c_mo_write 76 = .ok (.iadd, 1) := by decide +kernel
theorem d_mo_write_77 : decode c_mo_write 77 = .ok (.iload 6, 2) := by decide +kernel
theorem d_mo_write_79 : decode c_mo_write 79 = .ok (.iadd, 1) := by decide +kernel
theorem d_mo_write_80 : decode c_mo_write 80 = .ok (.lload 4, 2) := by decide +kernel
theorem d_mo_write_82 : decode c_mo_write 82 = .ok (.bipush 8, 2) := by decide +kernel
theorem d_mo_write_84 : decode c_mo_write 84 = .ok (.iload 6, 2) := by decide +kernel
theorem d_mo_write_86 : decode c_mo_write 86 = .ok (.imul, 1) := by decide +kernel
theorem d_mo_write_87 : decode c_mo_write 87 = .ok (.lushr, 1) := by decide +kernel
theorem d_mo_write_88 : decode c_mo_write 88 = .ok (.ldc2_w 206, 3) := by decide +kernel
theorem d_mo_write_91 : decode c_mo_write 91 = .ok (.land, 1) := by decide +kernel
theorem d_mo_write_92 : decode c_mo_write 92 = .ok (.l2i, 1) := by decide +kernel
theorem d_mo_write_93 : decode c_mo_write 93 = .ok (.iastore, 1) := by decide +kernel
theorem d_mo_write_94 : decode c_mo_write 94 = .ok (.iinc 6 1, 3) := by decide +kernel
theorem d_mo_write_97 : decode c_mo_write 97 = .ok (.goto (-47), 3) := by decide +kernel
theorem d_mo_write_100 : decode c_mo_write 100 = .ok (.return_, 1) := by decide +kernel
theorem d_mo_put_0 : decode c_mo_put 0 = .ok (.iconst 0, 1) := by decide +kernel
theorem d_mo_put_1 : decode c_mo_put 1 = .ok (.istore 5, 2) := by decide +kernel
theorem d_mo_put_3 : decode c_mo_put 3 = .ok (.iload 5, 2) := by decide +kernel
theorem d_mo_put_5 : decode c_mo_put 5 = .ok (.iload_n 3, 1) := by decide +kernel
theorem d_mo_put_6 : decode c_mo_put 6 = .ok (.if_icmp .ge 36, 3) := by decide +kernel
theorem d_mo_put_9 : decode c_mo_put 9 = .ok (.aload_n 0, 1) := by decide +kernel
theorem d_mo_put_10 : decode c_mo_put 10 = .ok (.getfield 37, 3) := by decide +kernel
theorem d_mo_put_13 : decode c_mo_put 13 = .ok (.sipush 256, 3) := by decide +kernel
theorem d_mo_put_16 : decode c_mo_put 16 = .ok (.iload_n 1, 1) := by decide +kernel
theorem d_mo_put_17 : decode c_mo_put 17 = .ok (.imul, 1) := by decide +kernel
theorem d_mo_put_18 : decode c_mo_put 18 = .ok (.iload_n 2, 1) := by decide +kernel
theorem d_mo_put_19 : decode c_mo_put 19 = .ok (.iadd, 1) := by decide +kernel
theorem d_mo_put_20 : decode c_mo_put 20 = .ok (.iload 5, 2) := by decide +kernel
theorem d_mo_put_22 : decode c_mo_put 22 = .ok (.iadd, 1) := by decide +kernel
theorem d_mo_put_23 : decode c_mo_put 23 = .ok (.iload 4, 2) := by decide +kernel
theorem d_mo_put_25 : decode c_mo_put 25 = .ok (.bipush 8, 2) := by decide +kernel
theorem d_mo_put_27 : decode c_mo_put 27 = .ok (.iload 5, 2) := by decide +kernel
theorem d_mo_put_29 : decode c_mo_put 29 = .ok (.imul, 1) := by decide +kernel
theorem d_mo_put_30 : decode c_mo_put 30 = .ok (.ishr, 1) := by decide +kernel
theorem d_mo_put_31 : decode c_mo_put 31 = .ok (.sipush 255, 3) := by decide +kernel
theorem d_mo_put_34 : decode c_mo_put 34 = .ok (.iand, 1) := by decide +kernel
theorem d_mo_put_35 : decode c_mo_put 35 = .ok (.iastore, 1) := by decide +kernel
theorem d_mo_put_36 : decode c_mo_put 36 = .ok (.iinc 5 1, 3) := by decide +kernel
theorem d_mo_put_39 : decode c_mo_put 39 = .ok (.goto (-36), 3) := by decide +kernel
theorem d_mo_put_42 : decode c_mo_put 42 = .ok (.return_, 1) := by decide +kernel
theorem d_mo_room_0 : decode c_mo_room 0 = .ok (.aload_n 0, 1) := by decide +kernel
theorem d_mo_room_1 : decode c_mo_room 1 = .ok (.getfield 40, 3) := by decide +kernel
theorem d_mo_room_4 : decode c_mo_room 4 = .ok (.iload_n 1, 1) := by decide +kernel
theorem d_mo_room_5 : decode c_mo_room 5 = .ok (.iaload, 1) := by decide +kernel
theorem d_mo_room_6 : decode c_mo_room 6 = .ok (.iload_n 3, 1) := by decide +kernel
theorem d_mo_room_7 : decode c_mo_room 7 = .ok (.invokestatic 173, 3) := by decide +kernel
theorem d_mo_room_10 : decode c_mo_room 10 = .ok (.istore 4, 2) := by decide +kernel
theorem d_mo_room_12 : decode c_mo_room 12 = .ok (.iload 4, 2) := by decide +kernel
theorem d_mo_room_14 : decode c_mo_room 14 = .ok (.iload_n 2, 1) := by decide +kernel
theorem d_mo_room_15 : decode c_mo_room 15 = .ok (.iadd, 1) := by decide +kernel
theorem d_mo_room_16 : decode c_mo_room 16 = .ok (.sipush 256, 3) := by decide +kernel
theorem d_mo_room_19 : decode c_mo_room 19 = .ok (.if_icmp .le 13, 3) := by decide +kernel
theorem d_mo_room_22 : decode c_mo_room 22 = .ok (.aload_n 0, 1) := by decide +kernel
theorem d_mo_room_23 : decode c_mo_room 23 = .ok (.bipush 11, 2) := by decide +kernel
theorem d_mo_room_25 : decode c_mo_room 25 = .ok (.iload 4, 2) := by decide +kernel
theorem d_mo_room_27 : decode c_mo_room 27 = .ok (.invokevirtual 230, 3) := by decide +kernel
theorem d_mo_room_30 : decode c_mo_room 30 = .ok (.iconst 0, 1) := by decide +kernel
theorem d_mo_room_31 : decode c_mo_room 31 = .ok (.ireturn, 1) := by decide +kernel
theorem d_mo_room_32 : decode c_mo_room 32 = .ok (.iconst 0, 1) := by decide +kernel
theorem d_mo_room_33 : decode c_mo_room 33 = .ok (.istore 5, 2) := by decide +kernel
theorem d_mo_room_35 : decode c_mo_room 35 = .ok (.iload 5, 2) := by decide +kernel
theorem d_mo_room_37 : decode c_mo_room 37 = .ok (.iload_n 2, 1) := by decide +kernel
theorem d_mo_room_38 : decode c_mo_room 38 = .ok (.if_icmp .ge 26, 3) := by decide +kernel
theorem d_mo_room_41 : decode c_mo_room 41 = .ok (.aload_n 0, 1) := by decide +kernel
theorem d_mo_room_42 : decode c_mo_room 42 = .ok (.getfield 37, 3) := by decide +kernel
theorem d_mo_room_45 : decode c_mo_room 45 = .ok (.sipush 256, 3) := by decide +kernel
theorem d_mo_room_48 : decode c_mo_room 48 = .ok (.iload_n 1, 1) := by decide +kernel
theorem d_mo_room_49 : decode c_mo_room 49 = .ok (.imul, 1) := by decide +kernel
theorem d_mo_room_50 : decode c_mo_room 50 = .ok (.iload 4, 2) := by decide +kernel
theorem d_mo_room_52 : decode c_mo_room 52 = .ok (.iadd, 1) := by decide +kernel
theorem d_mo_room_53 : decode c_mo_room 53 = .ok (.iload 5, 2) := by decide +kernel
theorem d_mo_room_55 : decode c_mo_room 55 = .ok (.iadd, 1) := by decide +kernel
theorem d_mo_room_56 : decode c_mo_room 56 = .ok (.iconst 0, 1) := by decide +kernel
theorem d_mo_room_57 : decode c_mo_room 57 = .ok (.iastore, 1) := by decide +kernel
theorem d_mo_room_58 : decode c_mo_room 58 = .ok (.iinc 5 1, 3) := by decide +kernel
theorem d_mo_room_61 : decode c_mo_room 61 = .ok (.goto (-26), 3) := by decide +kernel
theorem d_mo_room_64 : decode c_mo_room 64 = .ok (.aload_n 0, 1) := by decide +kernel
theorem d_mo_room_65 : decode c_mo_room 65 = .ok (.getfield 40, 3) := by decide +kernel
theorem d_mo_room_68 : decode c_mo_room 68 = .ok (.iload_n 1, 1) := by decide +kernel
theorem d_mo_room_69 : decode c_mo_room 69 = .ok (.iload 4, 2) := by decide +kernel
theorem d_mo_room_71 : decode c_mo_room 71 = .ok (.iload_n 2, 1) := by decide +kernel
theorem d_mo_room_72 : decode c_mo_room 72 = .ok (.iadd, 1) := by decide +kernel
theorem d_mo_room_73 : decode c_mo_room 73 = .ok (.iastore, 1) := by decide +kernel
theorem d_mo_room_74 : decode c_mo_room 74 = .ok (.iload 4, 2) := by decide +kernel
theorem d_mo_room_76 : decode c_mo_room 76 = .ok (.ireturn, 1) := by decide +kernel
theorem d_mo_number_0 : decode c_mo_number 0 = .ok (.iconst 0, 1) := by decide +kernel
theorem d_mo_number_1 : decode c_mo_number 1 = .ok (.istore 4, 2) := by decide +kernel
theorem d_mo_number_3 : decode c_mo_number 3 = .ok (.iconst 0, 1) := by decide +kernel
theorem d_mo_number_4 : decode c_mo_number 4 = .ok (.istore 5, 2) := by decide +kernel
theorem d_mo_number_6 : decode c_mo_number 6 = .ok (.iload 5, 2) := by decide +kernel
theorem d_mo_number_8 : decode c_mo_number 8 = .ok (.iload_n 3, 1) := by decide +kernel
theorem d_mo_number_9 : decode c_mo_number 9 = .ok (.if_icmp .ge 36, 3) := by decide +kernel
theorem d_mo_number_12 : decode c_mo_number 12 = .ok (.aload_n 0, 1) := by decide +kernel
theorem d_mo_number_13 : decode c_mo_number 13 = .ok (.getfield 224, 3) := by decide +kernel
theorem d_mo_number_16 : decode c_mo_number 16 = .ok (.ifCond .ne 29, 3) := by decide +kernel
theorem d_mo_number_19 : decode c_mo_number 19 = .ok (.iload 4, 2) := by decide +kernel
theorem d_mo_number_21 : decode c_mo_number 21 = .ok (.aload_n 0, 1) := by decide +kernel
theorem d_mo_number_22 : decode c_mo_number 22 = .ok (.iload_n 1, 1) := by decide +kernel
theorem d_mo_number_23 : decode c_mo_number 23 = .ok (.iload_n 2, 1) := by decide +kernel
theorem d_mo_number_24 : decode c_mo_number 24 = .ok (.iload 5, 2) := by decide +kernel
theorem d_mo_number_26 : decode c_mo_number 26 = .ok (.iadd, 1) := by decide +kernel
theorem d_mo_number_27 : decode c_mo_number 27 = .ok (.invokevirtual 234, 3) := by decide +kernel
theorem d_mo_number_30 : decode c_mo_number 30 = .ok (.bipush 8, 2) := by decide +kernel
theorem d_mo_number_32 : decode c_mo_number 32 = .ok (.iload 5, 2) := by decide +kernel
theorem d_mo_number_34 : decode c_mo_number 34 = .ok (.imul, 1) := by decide +kernel
theorem d_mo_number_35 : decode c_mo_number 35 = .ok (.ishl, 1) := by decide +kernel
theorem d_mo_number_36 : decode c_mo_number 36 = .ok (.ior, 1) := by decide +kernel
theorem d_mo_number_37 : decode c_mo_number 37 = .ok (.istore 4, 2) := by decide +kernel
theorem d_mo_number_39 : decode c_mo_number 39 = .ok (.iinc 5 1, 3) := by decide +kernel
theorem d_mo_number_42 : decode c_mo_number 42 = .ok (.goto (-36), 3) := by decide +kernel
theorem d_mo_number_45 : decode c_mo_number 45 = .ok (.iload 4, 2) := by decide +kernel
theorem d_mo_number_47 : decode c_mo_number 47 = .ok (.ireturn, 1) := by decide +kernel
theorem d_mo_readPlain_0 : decode c_mo_readPlain 0 = .ok (.aload_n 0, 1) := by decide +kernel
theorem d_mo_readPlain_1 : decode c_mo_readPlain 1 = .ok (.getfield 7, 3) := by decide +kernel
theorem d_mo_readPlain_4 : decode c_mo_readPlain 4 = .ok (.iload_n 2, 1) := by decide +kernel
theorem d_mo_readPlain_5 : decode c_mo_readPlain 5 = .ok (.iaload, 1) := by decide +kernel
theorem d_mo_readPlain_6 : decode c_mo_readPlain 6 = .ok (.istore 4, 2) := by decide +kernel
theorem d_mo_readPlain_8 : decode c_mo_readPlain 8 = .ok (.aload_n 0, 1) := by decide +kernel
theorem d_mo_readPlain_9 : decode c_mo_readPlain 9 = .ok (.iload_n 1, 1) := by decide +kernel
theorem d_mo_readPlain_10 : decode c_mo_readPlain 10 = .ok (.iload_n 3, 1) := by decide +kernel
theorem d_mo_readPlain_11 : decode c_mo_readPlain 11 = .ok (.invokevirtual 234, 3) := by decide +kernel
theorem d_mo_readPlain_14 : decode c_mo_readPlain 14 = .ok (.istore 5, 2) := by decide +kernel
theorem d_mo_readPlain_16 : decode c_mo_readPlain 16 = .ok (.iconst 1, 1) := by decide +kernel
theorem d_mo_readPlain_17 : decode c_mo_readPlain 17 = .ok (.istore 6, 2) := by decide +kernel
theorem d_mo_readPlain_19 : decode c_mo_readPlain 19 = .ok (.iload 6, 2) := by decide +kernel
theorem d_mo_readPlain_21 : decode c_mo_readPlain 21 = .ok (.aload_n 0, 1) := by decide +kernel
theorem d_mo_readPlain_22 : decode c_mo_readPlain 22 = .ok (.getfield 16, 3) := by decide +kernel
theorem d_mo_readPlain_25 : decode c_mo_readPlain 25 = .ok (.iload_n 2, 1) := by decide +kernel
theorem d_mo_readPlain_26 : decode c_mo_readPlain 26 = .ok (.iaload, 1) := by decide +kernel
theorem d_mo_readPlain_27 : decode c_mo_readPlain 27 = .ok (.if_icmp .ge 19, 3) := by decide +kernel
theorem d_mo_readPlain_30 : decode c_mo_readPlain 30 = .ok (.aload_n 0, 1) := by decide +kernel
theorem d_mo_readPlain_31 : decode c_mo_readPlain 31 = .ok (.iload_n 1, 1) := by decide +kernel
theorem d_mo_readPlain_32 : decode c_mo_readPlain 32 = .ok (.iload_n 3, 1) := by decide +kernel
theorem d_mo_readPlain_33 : decode c_mo_readPlain 33 = .ok (.iload 6, 2) := by decide +kernel
theorem d_mo_readPlain_35 : decode c_mo_readPlain 35 = .ok (.iadd, 1) := by decide +kernel
theorem d_mo_readPlain_36 : decode c_mo_readPlain 36 = .ok (.invokevirtual 234, 3) := by decide +kernel
theorem d_mo_readPlain_39 : decode c_mo_readPlain 39 = .ok (.pop, 1) := by decide +kernel
theorem d_mo_readPlain_40 : decode c_mo_readPlain 40 = .ok (.iinc 6 1, 3) := by decide +kernel
theorem d_mo_readPlain_43 : decode c_mo_readPlain 43 = .ok (.goto (-24), 3) := by decide +kernel
theorem d_mo_readPlain_46 : decode c_mo_readPlain 46 = .ok (.aload_n 0, 1) := by decide +kernel
theorem d_mo_readPlain_47 : decode c_mo_readPlain 47 = .ok (.getfield 224, 3) := by decide +kernel
theorem d_mo_readPlain_50 : decode c_mo_readPlain 50 = .ok (.ifCond .le 4, 3) := by decide +kernel
theorem d_mo_readPlain_53 : decode c_mo_readPlain 53 = .ok (.return_, 1) := by decide +kernel
theorem d_mo_readPlain_54 : decode c_mo_readPlain 54 = .ok (.iload 4, 2) := by decide +kernel
theorem d_mo_readPlain_56 : decode c_mo_readPlain 56 = .ok (.ifCond .ne 9, 3) := by decide +kernel
theorem d_mo_readPlain_59 : decode c_mo_readPlain 59 = .ok (.iload 5, 2) := by decide +kernel
theorem d_mo_readPlain_61 : decode c_mo_readPlain 61 = .ok (.iconst 1, 1) := by decide +kernel
theorem d_mo_readPlain_62 : decode c_mo_readPlain 62 = .ok (.if_icmp .gt 21, 3) := by decide +kernel
theorem d_mo_readPlain_65 : decode c_mo_readPlain 65 = .ok (.iload 4, 2) := by decide +kernel
theorem d_mo_readPlain_67 : decode c_mo_readPlain 67 = .ok (.bipush 7, 2) := by decide +kernel
theorem d_mo_readPlain_69 : decode c_mo_readPlain 69 = .ok (.if_icmp .ne 20, 3) := by decide +kernel
theorem d_mo_readPlain_72 : decode c_mo_readPlain 72 = .ok (.iload 5, 2) := by decide +kernel
theorem d_mo_readPlain_74 : decode c_mo_readPlain 74 = .ok (.aload_n 0, 1) := by decide +kernel
theorem d_mo_readPlain_75 : decode c_mo_readPlain 75 = .ok (.getfield 13, 3) := by decide +kernel
theorem d_mo_readPlain_78 : decode c_mo_readPlain 78 = .ok (.iload_n 2, 1) := by decide +kernel
theorem d_mo_readPlain_79 : decode c_mo_readPlain 79 = .ok (.iaload, 1) := by decide +kernel
theorem d_mo_readPlain_80 : decode c_mo_readPlain 80 = .ok (.if_icmp .lt 9, 3) := by decide +kernel
theorem d_mo_readPlain_83 : decode c_mo_readPlain 83 = .ok (.aload_n 0, 1) := by decide +kernel
theorem d_mo_readPlain_84 : decode c_mo_readPlain 84 = .ok (.iconst 2, 1) := by decide +kernel
theorem d_mo_readPlain_85 : decode c_mo_readPlain 85 = .ok (.iload_n 3, 1) := by decide +kernel
theorem d_mo_readPlain_86 : decode c_mo_readPlain 86 = .ok (.invokevirtual 230, 3) := by decide +kernel
theorem d_mo_readPlain_89 : decode c_mo_readPlain 89 = .ok (.iload 4, 2) := by decide +kernel
theorem d_mo_readPlain_91 : decode c_mo_readPlain 91 = .ok (.iconst 5, 1) := by decide +kernel
theorem d_mo_readPlain_92 : decode c_mo_readPlain 92 = .ok (.if_icmp .ne 45, 3) := by decide +kernel
theorem d_mo_readPlain_95 : decode c_mo_readPlain 95 = .ok (.aload_n 0, 1) := by decide +kernel
theorem d_mo_readPlain_96 : decode c_mo_readPlain 96 = .ok (.iload_n 1, 1) := by decide +kernel
theorem d_mo_readPlain_97 : decode c_mo_readPlain 97 = .ok (.iload_n 3, 1) := by decide +kernel
theorem d_mo_readPlain_98 : decode c_mo_readPlain 98 = .ok (.iconst 4, 1) := by decide +kernel
theorem d_mo_readPlain_99 : decode c_mo_readPlain 99 = .ok (.invokevirtual 240, 3) := by decide +kernel
theorem d_mo_readPlain_102 : decode c_mo_readPlain 102 = .ok (.istore 6, 2) := by decide +kernel
theorem d_mo_readPlain_104 : decode c_mo_readPlain 104 = .ok (.iload 6, 2) := by decide +kernel
theorem d_mo_readPlain_106 : decode c_mo_readPlain 106 = .ok (.ifCond .lt 25, 3) := by decide +kernel
theorem d_mo_readPlain_109 : decode c_mo_readPlain 109 = .ok (.iload 6, 2) := by decide +kernel
theorem d_mo_readPlain_111 : decode c_mo_readPlain 111 = .ok (.ldc 254, 2) := by decide +kernel
theorem d_mo_readPlain_113 : decode c_mo_readPlain 113 = .ok (.if_icmp .gt 18, 3) := by decide +kernel
theorem d_mo_readPlain_116 : decode c_mo_readPlain 116 = .ok (.iload 6, 2) := by decide +kernel
theorem d_mo_readPlain_118 : decode c_mo_readPlain 118 = .ok (.ldc 255, 2) := by decide +kernel
theorem d_mo_readPlain_120 : decode c_mo_readPlain 120 = .ok (.if_icmp .le 17, 3) := by decide +kernel
theorem d_mo_readPlain_123 : decode c_mo_readPlain 123 = .ok (.iload 6, 2) := by decide +kernel
theorem d_mo_readPlain_125 : decode c_mo_readPlain 125 = .ok (.ldc_w 256, 3) := by decide +kernel
theorem d_mo_readPlain_128 : decode c_mo_readPlain 128 = .ok (.if_icmp .ge 9, 3) := by decide +kernel
theorem d_mo_readPlain_131 : decode c_mo_readPlain 131 = .ok (.aload_n 0, 1) := by decide +kernel
theorem d_mo_readPlain_132 : decode c_mo_readPlain 132 = .ok (.iconst 3, 1) := by decide +kernel
theorem d_mo_readPlain_133 : decode c_mo_readPlain 133 = .ok (.iload_n 3, 1) := by decide +kernel
theorem d_mo_readPlain_134 : decode c_mo_readPlain 134 = .ok (.invokevirtual 230, 3) := by decide +kernel
theorem d_mo_readPlain_137 : decode c_mo_readPlain 137 = .ok (.return_, 1) := by decide +kernel
theorem d_mo_readHandle_0 : decode c_mo_readHandle 0 = .ok (.aload_n 0, 1) := by decide +kernel
theorem d_mo_readHandle_1 : decode c_mo_readHandle 1 = .ok (.iload_n 1, 1) := by decide +kernel
theorem d_mo_readHandle_2 : decode c_mo_readHandle 2 = .ok (.iload_n 3, 1) := by decide +kernel
theorem d_mo_readHandle_3 : decode c_mo_readHandle 3 = .ok (.invokevirtual 234, 3) := by decide +kernel
theorem d_mo_readHandle_6 : decode c_mo_readHandle 6 = .ok (.istore 5, 2) := by decide +kernel
theorem d_mo_readHandle_8 : decode c_mo_readHandle 8 = .ok (.aload_n 0, 1) := by decide +kernel
theorem d_mo_readHandle_9 : decode c_mo_readHandle 9 = .ok (.getfield 224, 3) := by decide +kernel
theorem d_mo_readHandle_12 : decode c_mo_readHandle 12 = .ok (.ifCond .le 4, 3) := by decide +kernel
theorem d_mo_readHandle_15 : decode c_mo_readHandle 15 = .ok (.return_, 1) := by decide +kernel
theorem d_mo_readHandle_16 : decode c_mo_readHandle 16 = .ok (.iload 5, 2) := by decide +kernel
theorem d_mo_readHandle_18 : decode c_mo_readHandle 18 = .ok (.iconst 1, 1) := by decide +kernel
theorem d_mo_readHandle_19 : decode c_mo_readHandle 19 = .ok (.if_icmp .lt 44, 3) := by decide +kernel
theorem d_mo_readHandle_22 : decode c_mo_readHandle 22 = .ok (.iload 5, 2) := by decide +kernel
theorem d_mo_readHandle_24 : decode c_mo_readHandle 24 = .ok (.bipush 16, 2) := by decide +kernel
theorem d_mo_readHandle_26 : decode c_mo_readHandle 26 = .ok (.if_icmp .gt 37, 3) := by decide +kernel
theorem d_mo_readHandle_29 : decode c_mo_readHandle 29 = .ok (.aload_n 0, 1) := by decide +kernel
theorem d_mo_readHandle_30 : decode c_mo_readHandle 30 = .ok (.getfield 46, 3) := by decide +kernel
theorem d_mo_readHandle_33 : decode c_mo_readHandle 33 = .ok (.bipush 17, 2) := by decide +kernel
theorem d_mo_readHandle_35 : decode c_mo_readHandle 35 = .ok (.iload_n 1, 1) := by decide +kernel
theorem d_mo_readHandle_36 : decode c_mo_readHandle 36 = .ok (.imul, 1) := by decide +kernel
theorem d_mo_readHandle_37 : decode c_mo_readHandle 37 = .ok (.iload 5, 2) := by decide +kernel
theorem d_mo_readHandle_39 : decode c_mo_readHandle 39 = .ok (.iadd, 1) := by decide +kernel
theorem d_mo_readHandle_40 : decode c_mo_readHandle 40 = .ok (.baload, 1) := by decide +kernel
theorem d_mo_readHandle_41 : decode c_mo_readHandle 41 = .ok (.ifCond .eq 22, 3) := by decide +kernel
theorem d_mo_readHandle_44 : decode c_mo_readHandle 44 = .ok (.aload_n 0, 1) := by decide +kernel
theorem d_mo_readHandle_45 : decode c_mo_readHandle 45 = .ok (.getfield 59, 3) := by decide +kernel
theorem d_mo_readHandle_48 : decode c_mo_readHandle 48 = .ok (.bipush 17, 2) := by decide +kernel
theorem d_mo_readHandle_50 : decode c_mo_readHandle 50 = .ok (.iload_n 1, 1) := by decide +kernel
theorem d_mo_readHandle_51 : decode c_mo_readHandle 51 = .ok (.imul, 1) := by decide +kernel
theorem d_mo_readHandle_52 : decode c_mo_readHandle 52 = .ok (.iload 5, 2) := by decide +kernel
theorem d_mo_readHandle_54 : decode c_mo_readHandle 54 = .ok (.iadd, 1) := by decide +kernel
theorem d_mo_readHandle_55 : decode c_mo_readHandle 55 = .ok (.baload, 1) := by decide +kernel
theorem d_mo_readHandle_56 : decode c_mo_readHandle 56 = .ok (.ifCond .ne 7, 3) := by decide +kernel
theorem d_mo_readHandle_59 : decode c_mo_readHandle 59 = .ok (.iconst 1, 1) := by decide +kernel
theorem d_mo_readHandle_60 : decode c_mo_readHandle 60 = .ok (.goto 4, 3) := by decide +kernel
theorem d_mo_readHandle_63 : decode c_mo_readHandle 63 = .ok (.iconst 0, 1) := by decide +kernel
theorem d_mo_readHandle_64 : decode c_mo_readHandle 64 = .ok (.istore 6, 2) := by decide +kernel
theorem d_mo_readHandle_66 : decode c_mo_readHandle 66 = .ok (.iload 6, 2) := by decide +kernel
theorem d_mo_readHandle_68 : decode c_mo_readHandle 68 = .ok (.ifCond .ne 11, 3) := by decide +kernel
theorem d_mo_readHandle_71 : decode c_mo_readHandle 71 = .ok (.aload_n 0, 1) := by decide +kernel
theorem d_mo_readHandle_72 : decode c_mo_readHandle 72 = .ok (.bipush 6, 2) := by decide +kernel
theorem d_mo_readHandle_74 : decode c_mo_readHandle 74 = .ok (.iload_n 3, 1) := by decide +kernel
theorem d_mo_readHandle_75 : decode c_mo_readHandle 75 = .ok (.invokevirtual 230, 3) := by decide +kernel
theorem d_mo_readHandle_78 : decode c_mo_readHandle 78 = .ok (.return_, 1) := by decide +kernel
theorem d_mo_readHandle_79 : decode c_mo_readHandle 79 = .ok (.bipush 17, 2) := by decide +kernel
theorem d_mo_readHandle_81 : decode c_mo_readHandle 81 = .ok (.iload_n 1, 1) := by decide +kernel
theorem d_mo_readHandle_82 : decode c_mo_readHandle 82 = .ok (.imul, 1) := by decide +kernel
theorem d_mo_readHandle_83 : decode c_mo_readHandle 83 = .ok (.iload 5, 2) := by decide +kernel
theorem d_mo_readHandle_85 : decode c_mo_readHandle 85 = .ok (.iadd, 1) := by decide +kernel
theorem d_mo_readHandle_86 : decode c_mo_readHandle 86 = .ok (.istore 7, 2) := by decide +kernel
theorem d_mo_readHandle_88 : decode c_mo_readHandle 88 = .ok (.aload_n 0, 1) := by decide +kernel
theorem d_mo_readHandle_89 : decode c_mo_readHandle 89 = .ok (.getfield 123, 3) := by decide +kernel
theorem d_mo_readHandle_92 : decode c_mo_readHandle 92 = .ok (.iload 4, 2) := by decide +kernel
theorem d_mo_readHandle_94 : decode c_mo_readHandle 94 = .ok (.iload 7, 2) := by decide +kernel
theorem d_mo_readHandle_96 : decode c_mo_readHandle 96 = .ok (.iastore, 1) := by decide +kernel
theorem d_mo_readHandle_97 : decode c_mo_readHandle 97 = .ok (.aload_n 0, 1) := by decide +kernel
theorem d_mo_readHandle_98 : decode c_mo_readHandle 98 = .ok (.getfield 65, 3) := by decide +kernel
theorem d_mo_readHandle_101 : decode c_mo_readHandle 101 = .ok (.aload_n 0, 1) := by decide +kernel
theorem d_mo_readHandle_102 : decode c_mo_readHandle 102 = .ok (.getfield 50, 3) := by decide +kernel
theorem d_mo_readHandle_105 : decode c_mo_readHandle 105 = .ok (.iload 7, 2) := by decide +kernel
theorem d_mo_readHandle_107 : decode c_mo_readHandle 107 = .ok (.iaload, 1) := by decide +kernel
theorem d_mo_readHandle_108 : decode c_mo_readHandle 108 = .ok (.iaload, 1) := by decide +kernel
theorem d_mo_readHandle_109 : decode c_mo_readHandle 109 = .ok (.aload_n 0, 1) := by decide +kernel
theorem d_mo_readHandle_110 : decode c_mo_readHandle 110 = .ok (.getfield 13, 3) := by decide +kernel
theorem d_mo_readHandle_113 : decode c_mo_readHandle 113 = .ok (.iload_n 2, 1) := by decide +kernel
theorem d_mo_readHandle_114 : decode c_mo_readHandle 114 = .ok (.iaload, 1) := by decide +kernel
theorem d_mo_readHandle_115 : decode c_mo_readHandle 115 = .ok (.if_icmp .eq 13, 3) := by decide +kernel
theorem d_mo_readHandle_118 : decode c_mo_readHandle 118 = .ok (.aload_n 0, 1) := by decide +kernel
theorem d_mo_readHandle_119 : decode c_mo_readHandle 119 = .ok (.bipush 7, 2) := by decide +kernel
theorem d_mo_readHandle_121 : decode c_mo_readHandle 121 = .ok (.iload_n 3, 1) := by decide +kernel
theorem d_mo_readHandle_122 : decode c_mo_readHandle 122 = .ok (.invokevirtual 230, 3) := by decide +kernel
theorem d_mo_readHandle_125 : decode c_mo_readHandle 125 = .ok (.goto 75, 3) := by decide +kernel
theorem d_mo_readHandle_128 : decode c_mo_readHandle 128 = .ok (.aload_n 0, 1) := by decide +kernel
theorem d_mo_readHandle_129 : decode c_mo_readHandle 129 = .ok (.getfield 7, 3) := by decide +kernel
theorem d_mo_readHandle_132 : decode c_mo_readHandle 132 = .ok (.iload_n 2, 1) := by decide +kernel
theorem d_mo_readHandle_133 : decode c_mo_readHandle 133 = .ok (.iaload, 1) := by decide +kernel
theorem d_mo_readHandle_134 : decode c_mo_readHandle 134 = .ok (.bipush 12, 2) := by decide +kernel
theorem d_mo_readHandle_136 : decode c_mo_readHandle 136 = .ok (.if_icmp .ne 17, 3) := by decide +kernel
theorem d_mo_readHandle_139 : decode c_mo_readHandle 139 = .ok (.aload_n 0, 1) := by decide +kernel
theorem d_mo_readHandle_140 : decode c_mo_readHandle 140 = .ok (.getfield 62, 3) := by decide +kernel
theorem d_mo_readHandle_143 : decode c_mo_readHandle 143 = .ok (.iload 7, 2) := by decide +kernel
theorem d_mo_readHandle_145 : decode c_mo_readHandle 145 = .ok (.dup2, 1) := by decide +kernel
theorem d_mo_readHandle_146 : decode c_mo_readHandle 146 = .ok (.iaload, 1) := by decide +kernel
theorem d_mo_readHandle_147 : decode c_mo_readHandle 147 = .ok (.iconst 1, 1) := by decide +kernel
theorem d_mo_readHandle_148 : decode c_mo_readHandle 148 = .ok (.iadd, 1) := by decide +kernel
theorem d_mo_readHandle_149 : decode c_mo_readHandle 149 = .ok (.iastore, 1) := by decide +kernel
theorem d_mo_readHandle_150 : decode c_mo_readHandle 150 = .ok (.goto 50, 3) := by decide +kernel
theorem d_mo_readHandle_153 : decode c_mo_readHandle 153 = .ok (.aload_n 0, 1) := by decide +kernel
theorem d_mo_readHandle_154 : decode c_mo_readHandle 154 = .ok (.getfield 53, 3) := by decide +kernel
theorem d_mo_readHandle_157 : decode c_mo_readHandle 157 = .ok (.iload 7, 2) := by decide +kernel
theorem d_mo_readHandle_159 : decode c_mo_readHandle 159 = .ok (.baload, 1) := by decide +kernel
theorem d_mo_readHandle_160 : decode c_mo_readHandle 160 = .ok (.ifCond .ne 13, 3) := by decide +kernel
theorem d_mo_readHandle_163 : decode c_mo_readHandle 163 = .ok (.aload_n 0, 1) := by decide +kernel
theorem d_mo_readHandle_164 : decode c_mo_readHandle 164 = .ok (.bipush 8, 2) := by decide +kernel
theorem d_mo_readHandle_166 : decode c_mo_readHandle 166 = .ok (.iload_n 3, 1) := by decide +kernel
theorem d_mo_readHandle_167 : decode c_mo_readHandle 167 = .ok (.invokevirtual 230, 3) := by decide +kernel
theorem d_mo_readHandle_170 : decode c_mo_readHandle 170 = .ok (.goto 30, 3) := by decide +kernel
theorem d_mo_readHandle_173 : decode c_mo_readHandle 173 = .ok (.aload_n 0, 1) := by decide +kernel
theorem d_mo_readHandle_174 : decode c_mo_readHandle 174 = .ok (.iload 7, 2) := by decide +kernel
theorem d_mo_readHandle_176 : decode c_mo_readHandle 176 = .ok (.invokevirtual 221, 3) := by decide +kernel
theorem d_mo_readHandle_179 : decode c_mo_readHandle 179 = .ok (.ifCond .le 13, 3) := by decide +kernel
theorem d_mo_readHandle_182 : decode c_mo_readHandle 182 = .ok (.aload_n 0, 1) := by decide +kernel
theorem d_mo_readHandle_183 : decode c_mo_readHandle 183 = .ok (.bipush 9, 2) := by decide +kernel
theorem d_mo_readHandle_185 : decode c_mo_readHandle 185 = .ok (.iload_n 3, 1) := by decide +kernel
theorem d_mo_readHandle_186 : decode c_mo_readHandle 186 = .ok (.invokevirtual 230, 3) := by decide +kernel
theorem d_mo_readHandle_189 : decode c_mo_readHandle 189 = .ok (.goto 11, 3) := by decide +kernel
theorem d_mo_readHandle_192 : decode c_mo_readHandle 192 = .ok (.aload_n 0, 1) := by decide +kernel
theorem d_mo_readHandle_193 : decode c_mo_readHandle 193 = .ok (.getfield 59, 3) := by decide +kernel
theorem d_mo_readHandle_196 : decode c_mo_readHandle 196 = .ok (.iload 7, 2) := by decide +kernel
theorem d_mo_readHandle_198 : decode c_mo_readHandle 198 = .ok (.iconst 1, 1) := by decide +kernel
theorem d_mo_readHandle_199 : decode c_mo_readHandle 199 = .ok (.bastore, 1) := by decide +kernel
theorem d_mo_readHandle_200 : decode c_mo_readHandle 200 = .ok (.return_, 1) := by decide +kernel
theorem d_mo_writeHandle_0 : decode c_mo_writeHandle 0 = .ok (.aload_n 0, 1) := by decide +kernel
theorem d_mo_writeHandle_1 : decode c_mo_writeHandle 1 = .ok (.iload_n 1, 1) := by decide +kernel
theorem d_mo_writeHandle_2 : decode c_mo_writeHandle 2 = .ok (.invokevirtual 215, 3) := by decide +kernel
theorem d_mo_writeHandle_5 : decode c_mo_writeHandle 5 = .ok (.istore_n 3, 1) := by decide +kernel
theorem d_mo_writeHandle_6 : decode c_mo_writeHandle 6 = .ok (.iload_n 3, 1) := by decide +kernel
theorem d_mo_writeHandle_7 : decode c_mo_writeHandle 7 = .ok (.ifCond .ne 16, 3) := by decide +kernel
theorem d_mo_writeHandle_10 : decode c_mo_writeHandle 10 = .ok (.aload_n 0, 1) := by decide +kernel
theorem d_mo_writeHandle_11 : decode c_mo_writeHandle 11 = .ok (.bipush 12, 2) := by decide +kernel
theorem d_mo_writeHandle_13 : decode c_mo_writeHandle 13 = .ok (.aload_n 0, 1) := by decide +kernel
theorem d_mo_writeHandle_14 : decode c_mo_writeHandle 14 = .ok (.getfield 114, 3) := by decide +kernel
theorem d_mo_writeHandle_17 : decode c_mo_writeHandle 17 = .ok (.iload_n 2, 1) := by decide +kernel
theorem d_mo_writeHandle_18 : decode c_mo_writeHandle 18 = .ok (.iaload, 1) := by decide +kernel
theorem d_mo_writeHandle_19 : decode c_mo_writeHandle 19 = .ok (.invokevirtual 230, 3) := by decide +kernel
theorem d_mo_writeHandle_22 : decode c_mo_writeHandle 22 = .ok (.return_, 1) := by decide +kernel
theorem d_mo_writeHandle_23 : decode c_mo_writeHandle 23 = .ok (.bipush 17, 2) := by decide +kernel
theorem d_mo_writeHandle_25 : decode c_mo_writeHandle 25 = .ok (.iload_n 1, 1) := by decide +kernel
theorem d_mo_writeHandle_26 : decode c_mo_writeHandle 26 = .ok (.imul, 1) := by decide +kernel
theorem d_mo_writeHandle_27 : decode c_mo_writeHandle 27 = .ok (.iload_n 3, 1) := by decide +kernel
theorem d_mo_writeHandle_28 : decode c_mo_writeHandle 28 = .ok (.iadd, 1) := by decide +kernel
theorem d_mo_writeHandle_29 : decode c_mo_writeHandle 29 = .ok (.istore 4, 2) := by decide +kernel
theorem d_mo_writeHandle_31 : decode c_mo_writeHandle 31 = .ok (.aload_n 0, 1) := by decide +kernel
theorem d_mo_writeHandle_32 : decode c_mo_writeHandle 32 = .ok (.getfield 46, 3) := by decide +kernel
theorem d_mo_writeHandle_35 : decode c_mo_writeHandle 35 = .ok (.iload 4, 2) := by decide +kernel
theorem d_mo_writeHandle_37 : decode c_mo_writeHandle 37 = .ok (.iconst 1, 1) := by decide +kernel
theorem d_mo_writeHandle_38 : decode c_mo_writeHandle 38 = .ok (.bastore, 1) := by decide +kernel
theorem d_mo_writeHandle_39 : decode c_mo_writeHandle 39 = .ok (.aload_n 0, 1) := by decide +kernel
theorem d_mo_writeHandle_40 : decode c_mo_writeHandle 40 = .ok (.getfield 53, 3) := by decide +kernel
theorem d_mo_writeHandle_43 : decode c_mo_writeHandle 43 = .ok (.iload 4, 2) := by decide +kernel
theorem d_mo_writeHandle_45 : decode c_mo_writeHandle 45 = .ok (.aload_n 0, 1) := by decide +kernel
theorem d_mo_writeHandle_46 : decode c_mo_writeHandle 46 = .ok (.getfield 7, 3) := by decide +kernel
theorem d_mo_writeHandle_49 : decode c_mo_writeHandle 49 = .ok (.aload_n 0, 1) := by decide +kernel
theorem d_mo_writeHandle_50 : decode c_mo_writeHandle 50 = .ok (.getfield 111, 3) := by decide +kernel
theorem d_mo_writeHandle_53 : decode c_mo_writeHandle 53 = .ok (.iload_n 2, 1) := by decide +kernel
theorem d_mo_writeHandle_54 : decode c_mo_writeHandle 54 = .ok (.iaload, 1) := by decide +kernel
theorem d_mo_writeHandle_55 : decode c_mo_writeHandle 55 = .ok (.iaload, 1) := by decide +kernel
theorem d_mo_writeHandle_56 : decode c_mo_writeHandle 56 = .ok (.bipush 11, 2) := by decide +kernel
theorem d_mo_writeHandle_58 : decode c_mo_writeHandle 58 = .ok (.if_icmp .ne 7, 3) := by decide +kernel
theorem d_mo_writeHandle_61 : decode c_mo_writeHandle 61 = .ok (.iconst 1, 1) := by decide +kernel
theorem d_mo_writeHandle_62 : decode c_mo_writeHandle 62 = .ok (.goto 4, 3) := by decide +kernel
theorem d_mo_writeHandle_65 : decode c_mo_writeHandle 65 = .ok (.iconst 0, 1) := by decide +kernel
theorem d_mo_writeHandle_66 : decode c_mo_writeHandle 66 = .ok (.bastore, 1) := by decide +kernel
theorem d_mo_writeHandle_67 : decode c_mo_writeHandle 67 = .ok (.aload_n 0, 1) := by decide +kernel
theorem d_mo_writeHandle_68 : decode c_mo_writeHandle 68 = .ok (.getfield 50, 3) := by decide +kernel
theorem d_mo_writeHandle_71 : decode c_mo_writeHandle 71 = .ok (.iload 4, 2) := by decide +kernel
theorem d_mo_writeHandle_73 : decode c_mo_writeHandle 73 = .ok (.aload_n 0, 1) := by decide +kernel
theorem d_mo_writeHandle_74 : decode c_mo_writeHandle 74 = .ok (.getfield 50, 3) := by decide +kernel
theorem d_mo_writeHandle_77 : decode c_mo_writeHandle 77 = .ok (.aload_n 0, 1) := by decide +kernel
theorem d_mo_writeHandle_78 : decode c_mo_writeHandle 78 = .ok (.getfield 123, 3) := by decide +kernel
theorem d_mo_writeHandle_81 : decode c_mo_writeHandle 81 = .ok (.iload_n 2, 1) := by decide +kernel
theorem d_mo_writeHandle_82 : decode c_mo_writeHandle 82 = .ok (.iaload, 1) := by decide +kernel
theorem d_mo_writeHandle_83 : decode c_mo_writeHandle 83 = .ok (.iaload, 1) := by decide +kernel
theorem d_mo_writeHandle_84 : decode c_mo_writeHandle 84 = .ok (.iastore, 1) := by decide +kernel
theorem d_mo_writeHandle_85 : decode c_mo_writeHandle 85 = .ok (.aload_n 0, 1) := by decide +kernel
theorem d_mo_writeHandle_86 : decode c_mo_writeHandle 86 = .ok (.getfield 56, 3) := by decide +kernel
theorem d_mo_writeHandle_89 : decode c_mo_writeHandle 89 = .ok (.iload 4, 2) := by decide +kernel
theorem d_mo_writeHandle_91 : decode c_mo_writeHandle 91 = .ok (.aload_n 0, 1) := by decide +kernel
theorem d_mo_writeHandle_92 : decode c_mo_writeHandle 92 = .ok (.getfield 123, 3) := by decide +kernel
theorem d_mo_writeHandle_95 : decode c_mo_writeHandle 95 = .ok (.iload_n 2, 1) := by decide +kernel
theorem d_mo_writeHandle_96 : decode c_mo_writeHandle 96 = .ok (.iaload, 1) := by decide +kernel
theorem d_mo_writeHandle_97 : decode c_mo_writeHandle 97 = .ok (.iastore, 1) := by decide +kernel
theorem d_mo_writeHandle_98 : decode c_mo_writeHandle 98 = .ok (.aload_n 0, 1) := by decide +kernel
theorem d_mo_writeHandle_99 : decode c_mo_writeHandle 99 = .ok (.getfield 135, 3) := by decide +kernel
theorem d_mo_writeHandle_102 : decode c_mo_writeHandle 102 = .ok (.aload_n 0, 1) := by decide +kernel
theorem d_mo_writeHandle_103 : decode c_mo_writeHandle 103 = .ok (.getfield 260, 3) := by decide +kernel
theorem d_mo_writeHandle_106 : decode c_mo_writeHandle 106 = .ok (.iload 4, 2) := by decide +kernel
theorem d_mo_writeHandle_108 : decode c_mo_writeHandle 108 = .ok (.iastore, 1) := by decide +kernel
theorem d_mo_writeHandle_109 : decode c_mo_writeHandle 109 = .ok (.aload_n 0, 1) := by decide +kernel
theorem d_mo_writeHandle_110 : decode c_mo_writeHandle 110 = .ok (.dup, 1) := by decide +kernel
theorem d_mo_writeHandle_111 : decode c_mo_writeHandle 111 = .ok (.getfield 260, 3) := by decide +kernel
theorem d_mo_writeHandle_114 : decode c_mo_writeHandle 114 = .ok (.iconst 1, 1) := by decide +kernel
theorem d_mo_writeHandle_115 : decode c_mo_writeHandle 115 = .ok (.iadd, 1) := by decide +kernel
theorem d_mo_writeHandle_116 : decode c_mo_writeHandle 116 = .ok (.putfield 260, 3) := by decide +kernel
theorem d_mo_writeHandle_119 : decode c_mo_writeHandle 119 = .ok (.aload_n 0, 1) := by decide +kernel
theorem d_mo_writeHandle_120 : decode c_mo_writeHandle 120 = .ok (.iload_n 1, 1) := by decide +kernel
theorem d_mo_writeHandle_121 : decode c_mo_writeHandle 121 = .ok (.aload_n 0, 1) := by decide +kernel
theorem d_mo_writeHandle_122 : decode c_mo_writeHandle 122 = .ok (.getfield 129, 3) := by decide +kernel
theorem d_mo_writeHandle_125 : decode c_mo_writeHandle 125 = .ok (.iload_n 2, 1) := by decide +kernel
theorem d_mo_writeHandle_126 : decode c_mo_writeHandle 126 = .ok (.iaload, 1) := by decide +kernel
theorem d_mo_writeHandle_127 : decode c_mo_writeHandle 127 = .ok (.iconst 1, 1) := by decide +kernel
theorem d_mo_writeHandle_128 : decode c_mo_writeHandle 128 = .ok (.iload_n 3, 1) := by decide +kernel
theorem d_mo_writeHandle_129 : decode c_mo_writeHandle 129 = .ok (.invokevirtual 263, 3) := by decide +kernel
theorem d_mo_writeHandle_132 : decode c_mo_writeHandle 132 = .ok (.return_, 1) := by decide +kernel
