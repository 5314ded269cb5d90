theorem d_re_byteAt_0 : decode c_re_byteAt 0 = .ok (.iload_n 1, 1) := by decide +kernel
theorem d_re_byteAt_1 : decode c_re_byteAt 1 = .ok (.invokestatic 81, 3) := by decide +kernel
theorem d_re_byteAt_4 : decode c_re_byteAt 4 = .ok (.ifCond .ne 15, 3) := by decide +kernel
theorem d_re_byteAt_7 : decode c_re_byteAt 7 = .ok (.aload_n 0, 1) := by decide +kernel
theorem d_re_byteAt_8 : decode c_re_byteAt 8 = .ok (.getfield 23, 3) := by decide +kernel
theorem d_re_byteAt_11 : decode c_re_byteAt 11 = .ok (.iconst 1, 1) := by decide +kernel
theorem d_re_byteAt_12 : decode c_re_byteAt 12 = .ok (.iload_n 1, 1) := by decide +kernel
theorem d_re_byteAt_13 : decode c_re_byteAt 13 = .ok (.invokevirtual 33, 3) := by decide +kernel
theorem d_re_byteAt_16 : decode c_re_byteAt 16 = .ok (.pop, 1) := by decide +kernel
theorem d_re_byteAt_17 : decode c_re_byteAt 17 = .ok (.iconst (-1), 1) := by decide +kernel
theorem d_re_byteAt_18 : decode c_re_byteAt 18 = .ok (.ireturn, 1) := by decide +kernel
theorem d_re_byteAt_19 : decode c_re_byteAt 19 = .ok (.aload_n 0, 1) := by decide +kernel
theorem d_re_byteAt_20 : decode c_re_byteAt 20 = .ok (.getfield 15, 3) := by decide +kernel
theorem d_re_byteAt_23 : decode c_re_byteAt 23 = .ok (.getfield 84, 3) := by decide +kernel
theorem d_re_byteAt_26 : decode c_re_byteAt 26 = .ok (.iload_n 1, 1) := by decide +kernel
theorem d_re_byteAt_27 : decode c_re_byteAt 27 = .ok (.iaload, 1) := by decide +kernel
theorem d_re_byteAt_28 : decode c_re_byteAt 28 = .ok (.ireturn, 1) := by decide +kernel
theorem d_re_readsBytes_0 : decode c_re_readsBytes 0 = .ok (.aload_n 0, 1) := by decide +kernel
theorem d_re_readsBytes_1 : decode c_re_readsBytes 1 = .ok (.lconst 0, 1) := by decide +kernel
theorem d_re_readsBytes_2 : decode c_re_readsBytes 2 = .ok (.putfield 9, 3) := by decide +kernel
theorem d_re_readsBytes_5 : decode c_re_readsBytes 5 = .ok (.iconst 0, 1) := by decide +kernel
theorem d_re_readsBytes_6 : decode c_re_readsBytes 6 = .ok (.istore_n 3, 1) := by decide +kernel
theorem d_re_readsBytes_7 : decode c_re_readsBytes 7 = .ok (.iload_n 3, 1) := by decide +kernel
theorem d_re_readsBytes_8 : decode c_re_readsBytes 8 = .ok (.iload_n 2, 1) := by decide +kernel
theorem d_re_readsBytes_9 : decode c_re_readsBytes 9 = .ok (.if_icmp .ge 43, 3) := by decide +kernel
theorem d_re_readsBytes_12 : decode c_re_readsBytes 12 = .ok (.aload_n 0, 1) := by decide +kernel
theorem d_re_readsBytes_13 : decode c_re_readsBytes 13 = .ok (.iload_n 1, 1) := by decide +kernel
theorem d_re_readsBytes_14 : decode c_re_readsBytes 14 = .ok (.iload_n 3, 1) := by decide +kernel
theorem d_re_readsBytes_15 : decode c_re_readsBytes 15 = .ok (.iadd, 1) := by decide +kernel
theorem d_re_readsBytes_16 : decode c_re_readsBytes 16 = .ok (.invokevirtual 89, 3) := by decide +kernel
theorem d_re_readsBytes_19 : decode c_re_readsBytes 19 = .ok (.istore 4, 2) := by decide +kernel
theorem d_re_readsBytes_21 : decode c_re_readsBytes 21 = .ok (.iload 4, 2) := by decide +kernel
theorem d_re_readsBytes_23 : decode c_re_readsBytes 23 = .ok (.iconst (-1), 1) := by decide +kernel
theorem d_re_readsBytes_24 : decode c_re_readsBytes 24 = .ok (.if_icmp .ne 5, 3) := by decide +kernel
theorem d_re_readsBytes_27 : decode c_re_readsBytes 27 = .ok (.iconst 0, 1) := by decide +kernel
theorem d_re_readsBytes_28 : decode c_re_readsBytes 28 = .ok (.ireturn, 1) := by decide +kernel
theorem d_re_readsBytes_29 : decode c_re_readsBytes 29 = .ok (.aload_n 0, 1) := by decide +kernel
theorem d_re_readsBytes_30 : decode c_re_readsBytes 30 = .ok (.dup, 1) := by decide +kernel
theorem d_re_readsBytes_31 : decode c_re_readsBytes 31 = .ok (.getfield 9, 3) := by decide +kernel
theorem d_re_readsBytes_34 : decode c_re_readsBytes 34 = .ok (.iload 4, 2) := by decide +kernel
theorem d_re_readsBytes_36 : decode c_re_readsBytes 36 = .ok (.i2l, 1) := by decide +kernel
theorem d_re_readsBytes_37 : decode c_re_readsBytes 37 = .ok (.bipush 8, 2) := by decide +kernel
theorem d_re_readsBytes_39 : decode c_re_readsBytes 39 = .ok (.iload_n 3, 1) := by decide +kernel
theorem d_re_readsBytes_40 : decode c_re_readsBytes 40 = .ok (.imul, 1) := by decide +kernel
theorem d_re_readsBytes_41 : decode c_re_readsBytes 41 = .ok (.lshl, 1) := by decide +kernel
theorem d_re_readsBytes_42 : decode c_re_readsBytes 42 = .ok (.lor, 1) := by decide +kernel
theorem d_re_readsBytes_43 : decode c_re_readsBytes 43 = .ok (.putfield 9, 3) := by decide +kernel
theorem d_re_readsBytes_46 : decode c_re_readsBytes 46 = .ok (.iinc 3 1, 3) := by decide +kernel
theorem d_re_readsBytes_49 : decode c_re_readsBytes 49 = .ok (.goto (-42), 3) := by decide +kernel
theorem d_re_readsBytes_52 : decode c_re_readsBytes 52 = .ok (.iconst 1, 1) := by decide +kernel
theorem d_re_readsBytes_53 : decode c_re_readsBytes 53 = .ok (.ireturn, 1) := by decide +kernel
theorem d_re_readsNumber_0 : decode c_re_readsNumber 0 = .ok (.aload_n 0, 1) := by decide +kernel
theorem d_re_readsNumber_1 : decode c_re_readsNumber 1 = .ok (.iload_n 3, 1) := by decide +kernel
theorem d_re_readsNumber_2 : decode c_re_readsNumber 2 = .ok (.aload_n 2, 1) := by decide +kernel
theorem d_re_readsNumber_3 : decode c_re_readsNumber 3 = .ok (.getfield 93, 3) := by decide +kernel
theorem d_re_readsNumber_6 : decode c_re_readsNumber 6 = .ok (.invokevirtual 96, 3) := by decide +kernel
theorem d_re_readsNumber_9 : decode c_re_readsNumber 9 = .ok (.ifCond .ne 5, 3) := by decide +kernel
theorem d_re_readsNumber_12 : decode c_re_readsNumber 12 = .ok (.iconst 0, 1) := by decide +kernel
theorem d_re_readsNumber_13 : decode c_re_readsNumber 13 = .ok (.ireturn, 1) := by decide +kernel
theorem d_re_readsNumber_14 : decode c_re_readsNumber 14 = .ok (.aload_n 2, 1) := by decide +kernel
theorem d_re_readsNumber_15 : decode c_re_readsNumber 15 = .ok (.getfield 48, 3) := by decide +kernel
theorem d_re_readsNumber_18 : decode c_re_readsNumber 18 = .ok (.ifCond .ne 12, 3) := by decide +kernel
theorem d_re_readsNumber_21 : decode c_re_readsNumber 21 = .ok (.aload_n 0, 1) := by decide +kernel
theorem d_re_readsNumber_22 : decode c_re_readsNumber 22 = .ok (.getfield 9, 3) := by decide +kernel
theorem d_re_readsNumber_25 : decode c_re_readsNumber 25 = .ok (.lconst 1, 1) := by decide +kernel
theorem d_re_readsNumber_26 : decode c_re_readsNumber 26 = .ok (.lcmp, 1) := by decide +kernel
theorem d_re_readsNumber_27 : decode c_re_readsNumber 27 = .ok (.ifCond .gt 25, 3) := by decide +kernel
theorem d_re_readsNumber_30 : decode c_re_readsNumber 30 = .ok (.aload_n 2, 1) := by decide +kernel
theorem d_re_readsNumber_31 : decode c_re_readsNumber 31 = .ok (.getfield 48, 3) := by decide +kernel
theorem d_re_readsNumber_34 : decode c_re_readsNumber 34 = .ok (.bipush 7, 2) := by decide +kernel
theorem d_re_readsNumber_36 : decode c_re_readsNumber 36 = .ok (.if_icmp .ne 26, 3) := by decide +kernel
theorem d_re_readsNumber_39 : decode c_re_readsNumber 39 = .ok (.aload_n 0, 1) := by decide +kernel
theorem d_re_readsNumber_40 : decode c_re_readsNumber 40 = .ok (.getfield 9, 3) := by decide +kernel
theorem d_re_readsNumber_43 : decode c_re_readsNumber 43 = .ok (.aload_n 2, 1) := by decide +kernel
theorem d_re_readsNumber_44 : decode c_re_readsNumber 44 = .ok (.getfield 99, 3) := by decide +kernel
theorem d_re_readsNumber_47 : decode c_re_readsNumber 47 = .ok (.i2l, 1) := by decide +kernel
theorem d_re_readsNumber_48 : decode c_re_readsNumber 48 = .ok (.lcmp, 1) := by decide +kernel
theorem d_re_readsNumber_49 : decode c_re_readsNumber 49 = .ok (.ifCond .lt 13, 3) := by decide +kernel
theorem d_re_readsNumber_52 : decode c_re_readsNumber 52 = .ok (.aload_n 0, 1) := by decide +kernel
theorem d_re_readsNumber_53 : decode c_re_readsNumber 53 = .ok (.getfield 23, 3) := by decide +kernel
theorem d_re_readsNumber_56 : decode c_re_readsNumber 56 = .ok (.iconst 2, 1) := by decide +kernel
theorem d_re_readsNumber_57 : decode c_re_readsNumber 57 = .ok (.iload_n 3, 1) := by decide +kernel
theorem d_re_readsNumber_58 : decode c_re_readsNumber 58 = .ok (.invokevirtual 33, 3) := by decide +kernel
theorem d_re_readsNumber_61 : decode c_re_readsNumber 61 = .ok (.ireturn, 1) := by decide +kernel
theorem d_re_readsNumber_62 : decode c_re_readsNumber 62 = .ok (.aload_n 2, 1) := by decide +kernel
theorem d_re_readsNumber_63 : decode c_re_readsNumber 63 = .ok (.getfield 48, 3) := by decide +kernel
theorem d_re_readsNumber_66 : decode c_re_readsNumber 66 = .ok (.iconst 5, 1) := by decide +kernel
theorem d_re_readsNumber_67 : decode c_re_readsNumber 67 = .ok (.if_icmp .ne 46, 3) := by decide +kernel
theorem d_re_readsNumber_70 : decode c_re_readsNumber 70 = .ok (.aload_n 0, 1) := by decide +kernel
theorem d_re_readsNumber_71 : decode c_re_readsNumber 71 = .ok (.getfield 9, 3) := by decide +kernel
theorem d_re_readsNumber_74 : decode c_re_readsNumber 74 = .ok (.ldc2_w 102, 3) := by decide +kernel
theorem d_re_readsNumber_77 : decode c_re_readsNumber 77 = .ok (.lcmp, 1) := by decide +kernel
theorem d_re_readsNumber_78 : decode c_re_readsNumber 78 = .ok (.ifCond .gt 25, 3) := by decide +kernel
theorem d_re_readsNumber_81 : decode c_re_readsNumber 81 = .ok (.aload_n 0, 1) := by decide +kernel
theorem d_re_readsNumber_82 : decode c_re_readsNumber 82 = .ok (.getfield 9, 3) := by decide +kernel
theorem d_re_readsNumber_85 : decode c_re_readsNumber 85 = .ok (.ldc2_w 104, 3) := by decide +kernel
theorem d_re_readsNumber_88 : decode c_re_readsNumber 88 = .ok (.lcmp, 1) := by decide +kernel
theorem d_re_readsNumber_89 : decode c_re_readsNumber 89 = .ok (.ifCond .le 24, 3) := by decide +kernel
theorem d_re_readsNumber_92 : decode c_re_readsNumber 92 = .ok (.aload_n 0, 1) := by decide +kernel
theorem d_re_readsNumber_93 : decode c_re_readsNumber 93 = .ok (.getfield 9, 3) := by decide +kernel
theorem d_re_readsNumber_96 : decode c_re_readsNumber 96 = .ok (.ldc2_w 106, 3) := by decide +kernel
theorem d_re_readsNumber_99 : decode c_re_readsNumber 99 = .ok (.lcmp, 1) := by decide +kernel
theorem d_re_readsNumber_100 : decode c_re_readsNumber 100 = .ok (.ifCond .ge 13, 3) := by decide +kernel
theorem d_re_readsNumber_103 : decode c_re_readsNumber 103 = .ok (.aload_n 0, 1) := by decide +kernel
theorem d_re_readsNumber_104 : decode c_re_readsNumber 104 = .ok (.getfield 23, 3) := by decide +kernel
theorem d_re_readsNumber_107 : decode c_re_readsNumber 107 = .ok (.iconst 3, 1) := by decide +kernel
theorem d_re_readsNumber_108 : decode c_re_readsNumber 108 = .ok (.iload_n 3, 1) := by decide +kernel
theorem d_re_readsNumber_109 : decode c_re_readsNumber 109 = .ok (.invokevirtual 33, 3) := by decide +kernel
theorem d_re_readsNumber_112 : decode c_re_readsNumber 112 = .ok (.ireturn, 1) := by decide +kernel
theorem d_re_readsNumber_113 : decode c_re_readsNumber 113 = .ok (.aload_n 0, 1) := by decide +kernel
theorem d_re_readsNumber_114 : decode c_re_readsNumber 114 = .ok (.getfield 19, 3) := by decide +kernel
theorem d_re_readsNumber_117 : decode c_re_readsNumber 117 = .ok (.getfield 108, 3) := by decide +kernel
theorem d_re_readsNumber_120 : decode c_re_readsNumber 120 = .ok (.iload_n 1, 1) := by decide +kernel
theorem d_re_readsNumber_121 : decode c_re_readsNumber 121 = .ok (.aload_n 0, 1) := by decide +kernel
theorem d_re_readsNumber_122 : decode c_re_readsNumber 122 = .ok (.getfield 9, 3) := by decide +kernel
theorem d_re_readsNumber_125 : decode c_re_readsNumber 125 = .ok (.lastore, 1) := by decide +kernel
theorem d_re_readsNumber_126 : decode c_re_readsNumber 126 = .ok (.iconst 1, 1) := by decide +kernel
theorem d_re_readsNumber_127 : decode c_re_readsNumber 127 = .ok (.ireturn, 1) := by decide +kernel
theorem d_re_readsPlaceAndCount_0 : decode c_re_readsPlaceAndCount 0 = .ok (.aload_n 0, 1) := by decide +kernel
theorem d_re_readsPlaceAndCount_1 : decode c_re_readsPlaceAndCount 1 = .ok (.iload_n 2, 1) := by decide +kernel
theorem d_re_readsPlaceAndCount_2 : decode c_re_readsPlaceAndCount 2 = .ok (.iconst 4, 1) := by decide +kernel
theorem d_re_readsPlaceAndCount_3 : decode c_re_readsPlaceAndCount 3 = .ok (.invokevirtual 96, 3) := by decide +kernel
theorem d_re_readsPlaceAndCount_6 : decode c_re_readsPlaceAndCount 6 = .ok (.ifCond .ne 5, 3) := by decide +kernel
theorem d_re_readsPlaceAndCount_9 : decode c_re_readsPlaceAndCount 9 = .ok (.iconst 0, 1) := by decide +kernel
theorem d_re_readsPlaceAndCount_10 : decode c_re_readsPlaceAndCount 10 = .ok (.ireturn, 1) := by decide +kernel
theorem d_re_readsPlaceAndCount_11 : decode c_re_readsPlaceAndCount 11 = .ok (.aload_n 0, 1) := by decide +kernel
theorem d_re_readsPlaceAndCount_12 : decode c_re_readsPlaceAndCount 12 = .ok (.getfield 19, 3) := by decide +kernel
theorem d_re_readsPlaceAndCount_15 : decode c_re_readsPlaceAndCount 15 = .ok (.getfield 108, 3) := by decide +kernel
theorem d_re_readsPlaceAndCount_18 : decode c_re_readsPlaceAndCount 18 = .ok (.iload_n 1, 1) := by decide +kernel
theorem d_re_readsPlaceAndCount_19 : decode c_re_readsPlaceAndCount 19 = .ok (.aload_n 0, 1) := by decide +kernel
theorem d_re_readsPlaceAndCount_20 : decode c_re_readsPlaceAndCount 20 = .ok (.getfield 9, 3) := by decide +kernel
theorem d_re_readsPlaceAndCount_23 : decode c_re_readsPlaceAndCount 23 = .ok (.ldc2_w 112, 3) := by decide +kernel
theorem d_re_readsPlaceAndCount_26 : decode c_re_readsPlaceAndCount 26 = .ok (.land, 1) := by decide +kernel
theorem d_re_readsPlaceAndCount_27 : decode c_re_readsPlaceAndCount 27 = .ok (.lastore, 1) := by decide +kernel
theorem d_re_readsPlaceAndCount_28 : decode c_re_readsPlaceAndCount 28 = .ok (.aload_n 0, 1) := by decide +kernel
theorem d_re_readsPlaceAndCount_29 : decode c_re_readsPlaceAndCount 29 = .ok (.getfield 19, 3) := by decide +kernel
theorem d_re_readsPlaceAndCount_32 : decode c_re_readsPlaceAndCount 32 = .ok (.getfield 114, 3) := by decide +kernel
theorem d_re_readsPlaceAndCount_35 : decode c_re_readsPlaceAndCount 35 = .ok (.iload_n 1, 1) := by decide +kernel
theorem d_re_readsPlaceAndCount_36 : decode c_re_readsPlaceAndCount 36 = .ok (.aload_n 0, 1) := by decide +kernel
theorem d_re_readsPlaceAndCount_37 : decode c_re_readsPlaceAndCount 37 = .ok (.getfield 9, 3) := by decide +kernel
theorem d_re_readsPlaceAndCount_40 : decode c_re_readsPlaceAndCount 40 = .ok (.bipush 16, 2) := by decide +kernel
theorem d_re_readsPlaceAndCount_42 : decode c_re_readsPlaceAndCount 42 = .ok (.lushr, 1) := by decide +kernel
theorem d_re_readsPlaceAndCount_43 : decode c_re_readsPlaceAndCount 43 = .ok (.l2i, 1) := by decide +kernel
theorem d_re_readsPlaceAndCount_44 : decode c_re_readsPlaceAndCount 44 = .ok (.iastore, 1) := by decide +kernel
theorem d_re_readsPlaceAndCount_45 : decode c_re_readsPlaceAndCount 45 = .ok (.iconst 1, 1) := by decide +kernel
theorem d_re_readsPlaceAndCount_46 : decode c_re_readsPlaceAndCount 46 = .ok (.ireturn, 1) := by decide +kernel
theorem d_re_groupLength_0 : decode c_re_groupLength 0 = .ok (.aload_n 0, 1) := by decide +kernel
theorem d_re_groupLength_1 : decode c_re_groupLength 1 = .ok (.iload_n 1, 1) := by decide +kernel
theorem d_re_groupLength_2 : decode c_re_groupLength 2 = .ok (.invokevirtual 89, 3) := by decide +kernel
theorem d_re_groupLength_5 : decode c_re_groupLength 5 = .ok (.istore_n 3, 1) := by decide +kernel
theorem d_re_groupLength_6 : decode c_re_groupLength 6 = .ok (.iload_n 3, 1) := by decide +kernel
theorem d_re_groupLength_7 : decode c_re_groupLength 7 = .ok (.iconst (-1), 1) := by decide +kernel
theorem d_re_groupLength_8 : decode c_re_groupLength 8 = .ok (.if_icmp .ne 5, 3) := by decide +kernel
theorem d_re_groupLength_11 : decode c_re_groupLength 11 = .ok (.iconst (-1), 1) := by decide +kernel
theorem d_re_groupLength_12 : decode c_re_groupLength 12 = .ok (.ireturn, 1) := by decide +kernel
theorem d_re_groupLength_13 : decode c_re_groupLength 13 = .ok (.iload_n 3, 1) := by decide +kernel
theorem d_re_groupLength_14 : decode c_re_groupLength 14 = .ok (.invokestatic 121, 3) := by decide +kernel
theorem d_re_groupLength_17 : decode c_re_groupLength 17 = .ok (.istore 4, 2) := by decide +kernel
theorem d_re_groupLength_19 : decode c_re_groupLength 19 = .ok (.iconst 1, 1) := by decide +kernel
theorem d_re_groupLength_20 : decode c_re_groupLength 20 = .ok (.istore 5, 2) := by decide +kernel
theorem d_re_groupLength_22 : decode c_re_groupLength 22 = .ok (.iload 5, 2) := by decide +kernel
theorem d_re_groupLength_24 : decode c_re_groupLength 24 = .ok (.iload 4, 2) := by decide +kernel
theorem d_re_groupLength_26 : decode c_re_groupLength 26 = .ok (.if_icmp .ge 64, 3) := by decide +kernel
theorem d_re_groupLength_29 : decode c_re_groupLength 29 = .ok (.iload_n 1, 1) := by decide +kernel
theorem d_re_groupLength_30 : decode c_re_groupLength 30 = .ok (.iload 5, 2) := by decide +kernel
theorem d_re_groupLength_32 : decode c_re_groupLength 32 = .ok (.iadd, 1) := by decide +kernel
theorem d_re_groupLength_33 : decode c_re_groupLength 33 = .ok (.iload_n 2, 1) := by decide +kernel
theorem d_re_groupLength_34 : decode c_re_groupLength 34 = .ok (.if_icmp .ge 14, 3) := by decide +kernel
theorem d_re_groupLength_37 : decode c_re_groupLength 37 = .ok (.aload_n 0, 1) := by decide +kernel
theorem d_re_groupLength_38 : decode c_re_groupLength 38 = .ok (.iload_n 1, 1) := by decide +kernel
theorem d_re_groupLength_39 : decode c_re_groupLength 39 = .ok (.iload 5, 2) := by decide +kernel
theorem d_re_groupLength_41 : decode c_re_groupLength 41 = .ok (.iadd, 1) := by decide +kernel
theorem d_re_groupLength_42 : decode c_re_groupLength 42 = .ok (.invokevirtual 89, 3) := by decide +kernel
theorem d_re_groupLength_45 : decode c_re_groupLength 45 = .ok (.goto 4, 3) := by decide +kernel
theorem d_re_groupLength_48 : decode c_re_groupLength 48 = .ok (.iconst 0, 1) := by decide +kernel
theorem d_re_groupLength_49 : decode c_re_groupLength 49 = .ok (.istore 6, 2) := by decide +kernel
theorem d_re_groupLength_51 : decode c_re_groupLength 51 = .ok (.iload 6, 2) := by decide +kernel
theorem d_re_groupLength_53 : decode c_re_groupLength 53 = .ok (.iconst (-1), 1) := by decide +kernel
theorem d_re_groupLength_54 : decode c_re_groupLength 54 = .ok (.if_icmp .ne 5, 3) := by decide +kernel
theorem d_re_groupLength_57 : decode c_re_groupLength 57 = .ok (.iconst (-1), 1) := by decide +kernel
theorem d_re_groupLength_58 : decode c_re_groupLength 58 = .ok (.ireturn, 1) := by decide +kernel
theorem d_re_groupLength_59 : decode c_re_groupLength 59 = .ok (.iload 6, 2) := by decide +kernel
theorem d_re_groupLength_61 : decode c_re_groupLength 61 = .ok (.iload_n 3, 1) := by decide +kernel
theorem d_re_groupLength_62 : decode c_re_groupLength 62 = .ok (.iload 5, 2) := by decide +kernel
theorem d_re_groupLength_64 : decode c_re_groupLength 64 = .ok (.invokestatic 124, 3) := by decide +kernel
theorem d_re_groupLength_67 : decode c_re_groupLength 67 = .ok (.if_icmp .lt 14, 3) := by decide +kernel
theorem d_re_groupLength_70 : decode c_re_groupLength 70 = .ok (.iload 6, 2) := by decide +kernel
theorem d_re_groupLength_72 : decode c_re_groupLength 72 = .ok (.iload_n 3, 1) := by decide +kernel
theorem d_re_groupLength_73 : decode c_re_groupLength 73 = .ok (.iload 5, 2) := by decide +kernel
theorem d_re_groupLength_75 : decode c_re_groupLength 75 = .ok (.invokestatic 127, 3) := by decide +kernel
theorem d_re_groupLength_78 : decode c_re_groupLength 78 = .ok (.if_icmp .le 6, 3) := by decide +kernel
theorem d_re_groupLength_81 : decode c_re_groupLength 81 = .ok (.iconst (-1), 1) := by decide +kernel
theorem d_re_groupLength_82 : decode c_re_groupLength 82 = .ok (.istore 4, 2) := by decide +kernel
theorem d_re_groupLength_84 : decode c_re_groupLength 84 = .ok (.iinc 5 1, 3) := by decide +kernel
theorem d_re_groupLength_87 : decode c_re_groupLength 87 = .ok (.goto (-65), 3) := by decide +kernel
theorem d_re_groupLength_90 : decode c_re_groupLength 90 = .ok (.iload 4, 2) := by decide +kernel
theorem d_re_groupLength_92 : decode c_re_groupLength 92 = .ok (.iconst (-1), 1) := by decide +kernel
theorem d_re_groupLength_93 : decode c_re_groupLength 93 = .ok (.if_icmp .ne 13, 3) := by decide +kernel
theorem d_re_groupLength_96 : decode c_re_groupLength 96 = .ok (.aload_n 0, 1) := by decide +kernel
theorem d_re_groupLength_97 : decode c_re_groupLength 97 = .ok (.getfield 23, 3) := by decide +kernel
theorem d_re_groupLength_100 : decode c_re_groupLength 100 = .ok (.iconst 4, 1) := by decide +kernel
theorem d_re_groupLength_101 : decode c_re_groupLength 101 = .ok (.iload_n 1, 1) := by decide +kernel
theorem d_re_groupLength_102 : decode c_re_groupLength 102 = .ok (.invokevirtual 33, 3) := by decide +kernel
theorem d_re_groupLength_105 : decode c_re_groupLength 105 = .ok (.pop, 1) := by decide +kernel
theorem d_re_groupLength_106 : decode c_re_groupLength 106 = .ok (.iload 4, 2) := by decide +kernel
theorem d_re_groupLength_108 : decode c_re_groupLength 108 = .ok (.ireturn, 1) := by decide +kernel
theorem d_re_readsText_0 : decode c_re_readsText 0 = .ok (.aload_n 0, 1) := by decide +kernel
theorem d_re_readsText_1 : decode c_re_readsText 1 = .ok (.getfield 19, 3) := by decide +kernel
theorem d_re_readsText_4 : decode c_re_readsText 4 = .ok (.getfield 108, 3) := by decide +kernel
theorem d_re_readsText_7 : decode c_re_readsText 7 = .ok (.iload_n 1, 1) := by decide +kernel
theorem d_re_readsText_8 : decode c_re_readsText 8 = .ok (.laload, 1) := by decide +kernel
theorem d_re_readsText_9 : decode c_re_readsText 9 = .ok (.l2i, 1) := by decide +kernel
theorem d_re_readsText_10 : decode c_re_readsText 10 = .ok (.istore_n 2, 1) := by decide +kernel
theorem d_re_readsText_11 : decode c_re_readsText 11 = .ok (.iload_n 2, 1) := by decide +kernel
theorem d_re_readsText_12 : decode c_re_readsText 12 = .ok (.aload_n 0, 1) := by decide +kernel
theorem d_re_readsText_13 : decode c_re_readsText 13 = .ok (.getfield 19, 3) := by decide +kernel
theorem d_re_readsText_16 : decode c_re_readsText 16 = .ok (.getfield 114, 3) := by decide +kernel
theorem d_re_readsText_19 : decode c_re_readsText 19 = .ok (.iload_n 1, 1) := by decide +kernel
theorem d_re_readsText_20 : decode c_re_readsText 20 = .ok (.iaload, 1) := by decide +kernel
theorem d_re_readsText_21 : decode c_re_readsText 21 = .ok (.iadd, 1) := by decide +kernel
theorem d_re_readsText_22 : decode c_re_readsText 22 = .ok (.istore_n 3, 1) := by decide +kernel
theorem d_re_readsText_23 : decode c_re_readsText 23 = .ok (.iload_n 2, 1) := by decide +kernel
theorem d_re_readsText_24 : decode c_re_readsText 24 = .ok (.iload_n 3, 1) := by decide +kernel
theorem d_re_readsText_25 : decode c_re_readsText 25 = .ok (.if_icmp .ge 26, 3) := by decide +kernel
theorem d_re_readsText_28 : decode c_re_readsText 28 = .ok (.aload_n 0, 1) := by decide +kernel
theorem d_re_readsText_29 : decode c_re_readsText 29 = .ok (.iload_n 2, 1) := by decide +kernel
theorem d_re_readsText_30 : decode c_re_readsText 30 = .ok (.iload_n 3, 1) := by decide +kernel
theorem d_re_readsText_31 : decode c_re_readsText 31 = .ok (.invokevirtual 117, 3) := by decide +kernel
theorem d_re_readsText_34 : decode c_re_readsText 34 = .ok (.istore 4, 2) := by decide +kernel
theorem d_re_readsText_36 : decode c_re_readsText 36 = .ok (.iload 4, 2) := by decide +kernel
theorem d_re_readsText_38 : decode c_re_readsText 38 = .ok (.ifCond .gt 5, 3) := by decide +kernel
theorem d_re_readsText_41 : decode c_re_readsText 41 = .ok (.iconst 0, 1) := by decide +kernel
theorem d_re_readsText_42 : decode c_re_readsText 42 = .ok (.ireturn, 1) := by decide +kernel
theorem d_re_readsText_43 : decode c_re_readsText 43 = .ok (.iload_n 2, 1) := by decide +kernel
theorem d_re_readsText_44 : decode c_re_readsText 44 = .ok (.iload 4, 2) := by decide +kernel
theorem d_re_readsText_46 : decode c_re_readsText 46 = .ok (.iadd, 1) := by decide +kernel
theorem d_re_readsText_47 : decode c_re_readsText 47 = .ok (.istore_n 2, 1) := by decide +kernel
theorem d_re_readsText_48 : decode c_re_readsText 48 = .ok (.goto (-25), 3) := by decide +kernel
theorem d_re_readsText_51 : decode c_re_readsText 51 = .ok (.iconst 1, 1) := by decide +kernel
theorem d_re_readsText_52 : decode c_re_readsText 52 = .ok (.ireturn, 1) := by decide +kernel
theorem d_re_readsHandle_0 : decode c_re_readsHandle 0 = .ok (.aload_n 0, 1) := by decide +kernel
theorem d_re_readsHandle_1 : decode c_re_readsHandle 1 = .ok (.iload_n 3, 1) := by decide +kernel
theorem d_re_readsHandle_2 : decode c_re_readsHandle 2 = .ok (.iconst 1, 1) := by decide +kernel
theorem d_re_readsHandle_3 : decode c_re_readsHandle 3 = .ok (.invokevirtual 96, 3) := by decide +kernel
theorem d_re_readsHandle_6 : decode c_re_readsHandle 6 = .ok (.ifCond .ne 5, 3) := by decide +kernel
theorem d_re_readsHandle_9 : decode c_re_readsHandle 9 = .ok (.iconst 0, 1) := by decide +kernel
theorem d_re_readsHandle_10 : decode c_re_readsHandle 10 = .ok (.ireturn, 1) := by decide +kernel
theorem d_re_readsHandle_11 : decode c_re_readsHandle 11 = .ok (.aload_n 0, 1) := by decide +kernel
theorem d_re_readsHandle_12 : decode c_re_readsHandle 12 = .ok (.getfield 15, 3) := by decide +kernel
theorem d_re_readsHandle_15 : decode c_re_readsHandle 15 = .ok (.aload_n 0, 1) := by decide +kernel
theorem d_re_readsHandle_16 : decode c_re_readsHandle 16 = .ok (.getfield 9, 3) := by decide +kernel
theorem d_re_readsHandle_19 : decode c_re_readsHandle 19 = .ok (.l2i, 1) := by decide +kernel
theorem d_re_readsHandle_20 : decode c_re_readsHandle 20 = .ok (.invokevirtual 139, 3) := by decide +kernel
theorem d_re_readsHandle_23 : decode c_re_readsHandle 23 = .ok (.astore 4, 2) := by decide +kernel
theorem d_re_readsHandle_25 : decode c_re_readsHandle 25 = .ok (.aload 4, 2) := by decide +kernel
theorem d_re_readsHandle_27 : decode c_re_readsHandle 27 = .ok (.ifnonnull 14, 3) := by decide +kernel
theorem d_re_readsHandle_30 : decode c_re_readsHandle 30 = .ok (.aload_n 0, 1) := by decide +kernel
theorem d_re_readsHandle_31 : decode c_re_readsHandle 31 = .ok (.getfield 23, 3) := by decide +kernel
theorem d_re_readsHandle_34 : decode c_re_readsHandle 34 = .ok (.bipush 6, 2) := by decide +kernel
theorem d_re_readsHandle_36 : decode c_re_readsHandle 36 = .ok (.iload_n 3, 1) := by decide +kernel
theorem d_re_readsHandle_37 : decode c_re_readsHandle 37 = .ok (.invokevirtual 33, 3) := by decide +kernel
theorem d_re_readsHandle_40 : decode c_re_readsHandle 40 = .ok (.ireturn, 1) := by decide +kernel
theorem d_re_readsHandle_41 : decode c_re_readsHandle 41 = .ok (.aload 4, 2) := by decide +kernel
theorem d_re_readsHandle_43 : decode c_re_readsHandle 43 = .ok (.getfield 143, 3) := by decide +kernel
theorem d_re_readsHandle_46 : decode c_re_readsHandle 46 = .ok (.aload_n 2, 1) := by decide +kernel
theorem d_re_readsHandle_47 : decode c_re_readsHandle 47 = .ok (.getfield 99, 3) := by decide +kernel
theorem d_re_readsHandle_50 : decode c_re_readsHandle 50 = .ok (.if_icmp .eq 14, 3) := by decide +kernel
theorem d_re_readsHandle_53 : decode c_re_readsHandle 53 = .ok (.aload_n 0, 1) := by decide +kernel
theorem d_re_readsHandle_54 : decode c_re_readsHandle 54 = .ok (.getfield 23, 3) := by decide +kernel
theorem d_re_readsHandle_57 : decode c_re_readsHandle 57 = .ok (.bipush 7, 2) := by decide +kernel
theorem d_re_readsHandle_59 : decode c_re_readsHandle 59 = .ok (.iload_n 3, 1) := by decide +kernel
theorem d_re_readsHandle_60 : decode c_re_readsHandle 60 = .ok (.invokevirtual 33, 3) := by decide +kernel
theorem d_re_readsHandle_63 : decode c_re_readsHandle 63 = .ok (.ireturn, 1) := by decide +kernel
theorem d_re_readsHandle_64 : decode c_re_readsHandle 64 = .ok (.aload_n 0, 1) := by decide +kernel
theorem d_re_readsHandle_65 : decode c_re_readsHandle 65 = .ok (.getfield 19, 3) := by decide +kernel
theorem d_re_readsHandle_68 : decode c_re_readsHandle 68 = .ok (.getfield 108, 3) := by decide +kernel
theorem d_re_readsHandle_71 : decode c_re_readsHandle 71 = .ok (.iload_n 1, 1) := by decide +kernel
theorem d_re_readsHandle_72 : decode c_re_readsHandle 72 = .ok (.aload_n 0, 1) := by decide +kernel
theorem d_re_readsHandle_73 : decode c_re_readsHandle 73 = .ok (.getfield 9, 3) := by decide +kernel
theorem d_re_readsHandle_76 : decode c_re_readsHandle 76 = .ok (.lastore, 1) := by decide +kernel
theorem d_re_readsHandle_77 : decode c_re_readsHandle 77 = .ok (.aload_n 2, 1) := by decide +kernel
theorem d_re_readsHandle_78 : decode c_re_readsHandle 78 = .ok (.getfield 48, 3) := by decide +kernel
theorem d_re_readsHandle_81 : decode c_re_readsHandle 81 = .ok (.bipush 12, 2) := by decide +kernel
theorem d_re_readsHandle_83 : decode c_re_readsHandle 83 = .ok (.if_icmp .ne 16, 3) := by decide +kernel
theorem d_re_readsHandle_86 : decode c_re_readsHandle 86 = .ok (.aload 4, 2) := by decide +kernel
theorem d_re_readsHandle_88 : decode c_re_readsHandle 88 = .ok (.dup, 1) := by decide +kernel
theorem d_re_readsHandle_89 : decode c_re_readsHandle 89 = .ok (.getfield 146, 3) := by decide +kernel
theorem d_re_readsHandle_92 : decode c_re_readsHandle 92 = .ok (.iconst 1, 1) := by decide +kernel
theorem d_re_readsHandle_93 : decode c_re_readsHandle 93 = .ok (.iadd, 1) := by decide +kernel
theorem d_re_readsHandle_94 : decode c_re_readsHandle 94 = .ok (.putfield 146, 3) := by decide +kernel
theorem d_re_readsHandle_97 : decode c_re_readsHandle 97 = .ok (.iconst 1, 1) := by decide +kernel
theorem d_re_readsHandle_98 : decode c_re_readsHandle 98 = .ok (.ireturn, 1) := by decide +kernel
theorem d_re_readsHandle_99 : decode c_re_readsHandle 99 = .ok (.aload 4, 2) := by decide +kernel
theorem d_re_readsHandle_101 : decode c_re_readsHandle 101 = .ok (.getfield 149, 3) := by decide +kernel
theorem d_re_readsHandle_104 : decode c_re_readsHandle 104 = .ok (.getstatic 153, 3) := by decide +kernel
theorem d_re_readsHandle_107 : decode c_re_readsHandle 107 = .ok (.if_acmp .eq 14, 3) := by decide +kernel
theorem d_re_readsHandle_110 : decode c_re_readsHandle 110 = .ok (.aload_n 0, 1) := by decide +kernel
theorem d_re_readsHandle_111 : decode c_re_readsHandle 111 = .ok (.getfield 23, 3) := by decide +kernel
theorem d_re_readsHandle_114 : decode c_re_readsHandle 114 = .ok (.bipush 8, 2) := by decide +kernel
theorem d_re_readsHandle_116 : decode c_re_readsHandle 116 = .ok (.iload_n 3, 1) := by decide +kernel
theorem d_re_readsHandle_117 : decode c_re_readsHandle 117 = .ok (.invokevirtual 33, 3) := by decide +kernel
theorem d_re_readsHandle_120 : decode c_re_readsHandle 120 = .ok (.ireturn, 1) := by decide +kernel
theorem d_re_readsHandle_121 : decode c_re_readsHandle 121 = .ok (.aload 4, 2) := by decide +kernel
theorem d_re_readsHandle_123 : decode c_re_readsHandle 123 = .ok (.getfield 146, 3) := by decide +kernel
theorem d_re_readsHandle_126 : decode c_re_readsHandle 126 = .ok (.ifCond .le 14, 3) := by decide +kernel
theorem d_re_readsHandle_129 : decode c_re_readsHandle 129 = .ok (.aload_n 0, 1) := by decide +kernel
theorem d_re_readsHandle_130 : decode c_re_readsHandle 130 = .ok (.getfield 23, 3) := by decide +kernel
theorem d_re_readsHandle_133 : decode c_re_readsHandle 133 = .ok (.bipush 9, 2) := by decide +kernel
theorem d_re_readsHandle_135 : decode c_re_readsHandle 135 = .ok (.iload_n 3, 1) := by decide +kernel
theorem d_re_readsHandle_136 : decode c_re_readsHandle 136 = .ok (.invokevirtual 33, 3) := by decide +kernel
theorem d_re_readsHandle_139 : decode c_re_readsHandle 139 = .ok (.ireturn, 1) := by decide +kernel
theorem d_re_readsHandle_140 : decode c_re_readsHandle 140 = .ok (.aload 4, 2) := by decide +kernel
theorem d_re_readsHandle_142 : decode c_re_readsHandle 142 = .ok (.getstatic 158, 3) := by decide +kernel
theorem d_re_readsHandle_145 : decode c_re_readsHandle 145 = .ok (.putfield 149, 3) := by decide +kernel
theorem d_re_readsHandle_148 : decode c_re_readsHandle 148 = .ok (.iconst 1, 1) := by decide +kernel
theorem d_re_readsHandle_149 : decode c_re_readsHandle 149 = .ok (.ireturn, 1) := by decide +kernel
theorem d_re_readsList_0 : decode c_re_readsList 0 = .ok (.aload_n 0, 1) := by decide +kernel
theorem d_re_readsList_1 : decode c_re_readsList 1 = .ok (.getfield 19, 3) := by decide +kernel
theorem d_re_readsList_4 : decode c_re_readsList 4 = .ok (.getfield 108, 3) := by decide +kernel
theorem d_re_readsList_7 : decode c_re_readsList 7 = .ok (.iload_n 1, 1) := by decide +kernel
theorem d_re_readsList_8 : decode c_re_readsList 8 = .ok (.laload, 1) := by decide +kernel
theorem d_re_readsList_9 : decode c_re_readsList 9 = .ok (.l2i, 1) := by decide +kernel
theorem d_re_readsList_10 : decode c_re_readsList 10 = .ok (.istore 4, 2) := by decide +kernel
theorem d_re_readsList_12 : decode c_re_readsList 12 = .ok (.iconst 0, 1) := by decide +kernel
theorem d_re_readsList_13 : decode c_re_readsList 13 = .ok (.istore 5, 2) := by decide +kernel
theorem d_re_readsList_15 : decode c_re_readsList 15 = .ok (.iload 5, 2) := by decide +kernel
theorem d_re_readsList_17 : decode c_re_readsList 17 = .ok (.aload_n 0, 1) := by decide +kernel
theorem d_re_readsList_18 : decode c_re_readsList 18 = .ok (.getfield 19, 3) := by decide +kernel
theorem d_re_readsList_21 : decode c_re_readsList 21 = .ok (.getfield 114, 3) := by decide +kernel
theorem d_re_readsList_24 : decode c_re_readsList 24 = .ok (.iload_n 1, 1) := by decide +kernel
theorem d_re_readsList_25 : decode c_re_readsList 25 = .ok (.iaload, 1) := by decide +kernel
theorem d_re_readsList_26 : decode c_re_readsList 26 = .ok (.if_icmp .ge 30, 3) := by decide +kernel
theorem d_re_readsList_29 : decode c_re_readsList 29 = .ok (.aload_n 0, 1) := by decide +kernel
theorem d_re_readsList_30 : decode c_re_readsList 30 = .ok (.aload_n 2, 1) := by decide +kernel
theorem d_re_readsList_31 : decode c_re_readsList 31 = .ok (.aload_n 3, 1) := by decide +kernel
theorem d_re_readsList_32 : decode c_re_readsList 32 = .ok (.iload 4, 2) := by decide +kernel
theorem d_re_readsList_34 : decode c_re_readsList 34 = .ok (.iload 5, 2) := by decide +kernel
theorem d_re_readsList_36 : decode c_re_readsList 36 = .ok (.aload_n 2, 1) := by decide +kernel
theorem d_re_readsList_37 : decode c_re_readsList 37 = .ok (.getfield 93, 3) := by decide +kernel
theorem d_re_readsList_40 : decode c_re_readsList 40 = .ok (.imul, 1) := by decide +kernel
theorem d_re_readsList_41 : decode c_re_readsList 41 = .ok (.iadd, 1) := by decide +kernel
theorem d_re_readsList_42 : decode c_re_readsList 42 = .ok (.invokevirtual 130, 3) := by decide +kernel
theorem d_re_readsList_45 : decode c_re_readsList 45 = .ok (.ifCond .ne 5, 3) := by decide +kernel
theorem d_re_readsList_48 : decode c_re_readsList 48 = .ok (.iconst 0, 1) := by decide +kernel
theorem d_re_readsList_49 : decode c_re_readsList 49 = .ok (.ireturn, 1) := by decide +kernel
theorem d_re_readsList_50 : decode c_re_readsList 50 = .ok (.iinc 5 1, 3) := by decide +kernel
theorem d_re_readsList_53 : decode c_re_readsList 53 = .ok (.goto (-38), 3) := by decide +kernel
theorem d_re_readsList_56 : decode c_re_readsList 56 = .ok (.iconst 1, 1) := by decide +kernel
theorem d_re_readsList_57 : decode c_re_readsList 57 = .ok (.ireturn, 1) := by decide +kernel
theorem d_re_readsRecord_0 : decode c_re_readsRecord 0 = .ok (.iconst 0, 1) := by decide +kernel
theorem d_re_readsRecord_1 : decode c_re_readsRecord 1 = .ok (.istore 4, 2) := by decide +kernel
theorem d_re_readsRecord_3 : decode c_re_readsRecord 3 = .ok (.iload 4, 2) := by decide +kernel
theorem d_re_readsRecord_5 : decode c_re_readsRecord 5 = .ok (.aload_n 2, 1) := by decide +kernel
theorem d_re_readsRecord_6 : decode c_re_readsRecord 6 = .ok (.getfield 133, 3) := by decide +kernel
theorem d_re_readsRecord_9 : decode c_re_readsRecord 9 = .ok (.if_icmp .ge 41, 3) := by decide +kernel
theorem d_re_readsRecord_12 : decode c_re_readsRecord 12 = .ok (.aload_n 0, 1) := by decide +kernel
theorem d_re_readsRecord_13 : decode c_re_readsRecord 13 = .ok (.aload_n 1, 1) := by decide +kernel
theorem d_re_readsRecord_14 : decode c_re_readsRecord 14 = .ok (.getfield 58, 3) := by decide +kernel
theorem d_re_readsRecord_17 : decode c_re_readsRecord 17 = .ok (.iload 4, 2) := by decide +kernel
theorem d_re_readsRecord_19 : decode c_re_readsRecord 19 = .ok (.aaload, 1) := by decide +kernel
theorem d_re_readsRecord_20 : decode c_re_readsRecord 20 = .ok (.aload_n 2, 1) := by decide +kernel
theorem d_re_readsRecord_21 : decode c_re_readsRecord 21 = .ok (.getfield 58, 3) := by decide +kernel
theorem d_re_readsRecord_24 : decode c_re_readsRecord 24 = .ok (.iload 4, 2) := by decide +kernel
theorem d_re_readsRecord_26 : decode c_re_readsRecord 26 = .ok (.aaload, 1) := by decide +kernel
theorem d_re_readsRecord_27 : decode c_re_readsRecord 27 = .ok (.iload_n 3, 1) := by decide +kernel
theorem d_re_readsRecord_28 : decode c_re_readsRecord 28 = .ok (.aload_n 1, 1) := by decide +kernel
theorem d_re_readsRecord_29 : decode c_re_readsRecord 29 = .ok (.getfield 136, 3) := by decide +kernel
theorem d_re_readsRecord_32 : decode c_re_readsRecord 32 = .ok (.iload 4, 2) := by decide +kernel
theorem d_re_readsRecord_34 : decode c_re_readsRecord 34 = .ok (.iaload, 1) := by decide +kernel
theorem d_re_readsRecord_35 : decode c_re_readsRecord 35 = .ok (.iadd, 1) := by decide +kernel
theorem d_re_readsRecord_36 : decode c_re_readsRecord 36 = .ok (.invokevirtual 130, 3) := by decide +kernel
theorem d_re_readsRecord_39 : decode c_re_readsRecord 39 = .ok (.ifCond .ne 5, 3) := by decide +kernel
theorem d_re_readsRecord_42 : decode c_re_readsRecord 42 = .ok (.iconst 0, 1) := by decide +kernel
theorem d_re_readsRecord_43 : decode c_re_readsRecord 43 = .ok (.ireturn, 1) := by decide +kernel
theorem d_re_readsRecord_44 : decode c_re_readsRecord 44 = .ok (.iinc 4 1, 3) := by decide +kernel
theorem d_re_readsRecord_47 : decode c_re_readsRecord 47 = .ok (.goto (-44), 3) := by decide +kernel
theorem d_re_readsRecord_50 : decode c_re_readsRecord 50 = .ok (.iconst 1, 1) := by decide +kernel
theorem d_re_readsRecord_51 : decode c_re_readsRecord 51 = .ok (.ireturn, 1) := by decide +kernel
theorem d_re_readsVariant_0 : decode c_re_readsVariant 0 = .ok (.aload_n 0, 1) := by decide +kernel
theorem d_re_readsVariant_1 : decode c_re_readsVariant 1 = .ok (.iload 4, 2) := by decide +kernel
theorem d_re_readsVariant_3 : decode c_re_readsVariant 3 = .ok (.iconst 1, 1) := by decide +kernel
theorem d_re_readsVariant_4 : decode c_re_readsVariant 4 = .ok (.invokevirtual 96, 3) := by decide +kernel
theorem d_re_readsVariant_7 : decode c_re_readsVariant 7 = .ok (.ifCond .ne 5, 3) := by decide +kernel
theorem d_re_readsVariant_10 : decode c_re_readsVariant 10 = .ok (.iconst 0, 1) := by decide +kernel
theorem d_re_readsVariant_11 : decode c_re_readsVariant 11 = .ok (.ireturn, 1) := by decide +kernel
theorem d_re_readsVariant_12 : decode c_re_readsVariant 12 = .ok (.aload_n 0, 1) := by decide +kernel
theorem d_re_readsVariant_13 : decode c_re_readsVariant 13 = .ok (.getfield 9, 3) := by decide +kernel
theorem d_re_readsVariant_16 : decode c_re_readsVariant 16 = .ok (.l2i, 1) := by decide +kernel
theorem d_re_readsVariant_17 : decode c_re_readsVariant 17 = .ok (.istore 5, 2) := by decide +kernel
theorem d_re_readsVariant_19 : decode c_re_readsVariant 19 = .ok (.iload 5, 2) := by decide +kernel
theorem d_re_readsVariant_21 : decode c_re_readsVariant 21 = .ok (.aload_n 2, 1) := by decide +kernel
theorem d_re_readsVariant_22 : decode c_re_readsVariant 22 = .ok (.getfield 133, 3) := by decide +kernel
theorem d_re_readsVariant_25 : decode c_re_readsVariant 25 = .ok (.if_icmp .lt 14, 3) := by decide +kernel
theorem d_re_readsVariant_28 : decode c_re_readsVariant 28 = .ok (.aload_n 0, 1) := by decide +kernel
theorem d_re_readsVariant_29 : decode c_re_readsVariant 29 = .ok (.getfield 23, 3) := by decide +kernel
theorem d_re_readsVariant_32 : decode c_re_readsVariant 32 = .ok (.iconst 2, 1) := by decide +kernel
theorem d_re_readsVariant_33 : decode c_re_readsVariant 33 = .ok (.iload 4, 2) := by decide +kernel
theorem d_re_readsVariant_35 : decode c_re_readsVariant 35 = .ok (.invokevirtual 33, 3) := by decide +kernel
theorem d_re_readsVariant_38 : decode c_re_readsVariant 38 = .ok (.ireturn, 1) := by decide +kernel
theorem d_re_readsVariant_39 : decode c_re_readsVariant 39 = .ok (.aload_n 0, 1) := by decide +kernel
theorem d_re_readsVariant_40 : decode c_re_readsVariant 40 = .ok (.getfield 19, 3) := by decide +kernel
theorem d_re_readsVariant_43 : decode c_re_readsVariant 43 = .ok (.getfield 108, 3) := by decide +kernel
theorem d_re_readsVariant_46 : decode c_re_readsVariant 46 = .ok (.iload_n 1, 1) := by decide +kernel
theorem d_re_readsVariant_47 : decode c_re_readsVariant 47 = .ok (.iload 5, 2) := by decide +kernel
theorem d_re_readsVariant_49 : decode c_re_readsVariant 49 = .ok (.i2l, 1) := by decide +kernel
theorem d_re_readsVariant_50 : decode c_re_readsVariant 50 = .ok (.lastore, 1) := by decide +kernel
theorem d_re_readsVariant_51 : decode c_re_readsVariant 51 = .ok (.aload_n 0, 1) := by decide +kernel
theorem d_re_readsVariant_52 : decode c_re_readsVariant 52 = .ok (.aload_n 2, 1) := by decide +kernel
theorem d_re_readsVariant_53 : decode c_re_readsVariant 53 = .ok (.getfield 58, 3) := by decide +kernel
theorem d_re_readsVariant_56 : decode c_re_readsVariant 56 = .ok (.iload 5, 2) := by decide +kernel
theorem d_re_readsVariant_58 : decode c_re_readsVariant 58 = .ok (.aaload, 1) := by decide +kernel
theorem d_re_readsVariant_59 : decode c_re_readsVariant 59 = .ok (.aload_n 3, 1) := by decide +kernel
theorem d_re_readsVariant_60 : decode c_re_readsVariant 60 = .ok (.getfield 58, 3) := by decide +kernel
theorem d_re_readsVariant_63 : decode c_re_readsVariant 63 = .ok (.iload 5, 2) := by decide +kernel
theorem d_re_readsVariant_65 : decode c_re_readsVariant 65 = .ok (.aaload, 1) := by decide +kernel
theorem d_re_readsVariant_66 : decode c_re_readsVariant 66 = .ok (.iload 4, 2) := by decide +kernel
theorem d_re_readsVariant_68 : decode c_re_readsVariant 68 = .ok (.aload_n 2, 1) := by decide +kernel
theorem d_re_readsVariant_69 : decode c_re_readsVariant 69 = .ok (.getfield 136, 3) := by decide +kernel
theorem d_re_readsVariant_72 : decode c_re_readsVariant 72 = .ok (.iload 5, 2) := by decide +kernel
theorem d_re_readsVariant_74 : decode c_re_readsVariant 74 = .ok (.iaload, 1) := by decide +kernel
theorem d_re_readsVariant_75 : decode c_re_readsVariant 75 = .ok (.iadd, 1) := by decide +kernel
theorem d_re_readsVariant_76 : decode c_re_readsVariant 76 = .ok (.invokevirtual 130, 3) := by decide +kernel
theorem d_re_readsVariant_79 : decode c_re_readsVariant 79 = .ok (.ireturn, 1) := by decide +kernel
