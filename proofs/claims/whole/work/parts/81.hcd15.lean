theorem d_wt_makeRoom_0 : decode c_wt_makeRoom 0 = .ok (.aload_n 0, 1) := by decide +kernel
theorem d_wt_makeRoom_1 : decode c_wt_makeRoom 1 = .ok (.getfield 19, 3) := by decide +kernel
theorem d_wt_makeRoom_4 : decode c_wt_makeRoom 4 = .ok (.getfield 46, 3) := by decide +kernel
theorem d_wt_makeRoom_7 : decode c_wt_makeRoom 7 = .ok (.iload_n 2, 1) := by decide +kernel
theorem d_wt_makeRoom_8 : decode c_wt_makeRoom 8 = .ok (.invokestatic 51, 3) := by decide +kernel
theorem d_wt_makeRoom_11 : decode c_wt_makeRoom 11 = .ok (.istore_n 3, 1) := by decide +kernel
theorem d_wt_makeRoom_12 : decode c_wt_makeRoom 12 = .ok (.iload_n 3, 1) := by decide +kernel
theorem d_wt_makeRoom_13 : decode c_wt_makeRoom 13 = .ok (.iload_n 1, 1) := by decide +kernel
theorem d_wt_makeRoom_14 : decode c_wt_makeRoom 14 = .ok (.iadd, 1) := by decide +kernel
theorem d_wt_makeRoom_15 : decode c_wt_makeRoom 15 = .ok (.sipush 256, 3) := by decide +kernel
theorem d_wt_makeRoom_18 : decode c_wt_makeRoom 18 = .ok (.if_icmp .le 16, 3) := by decide +kernel
theorem d_wt_makeRoom_21 : decode c_wt_makeRoom 21 = .ok (.aload_n 0, 1) := by decide +kernel
theorem d_wt_makeRoom_22 : decode c_wt_makeRoom 22 = .ok (.getfield 26, 3) := by decide +kernel
theorem d_wt_makeRoom_25 : decode c_wt_makeRoom 25 = .ok (.bipush 11, 2) := by decide +kernel
theorem d_wt_makeRoom_27 : decode c_wt_makeRoom 27 = .ok (.iload_n 3, 1) := by decide +kernel
theorem d_wt_makeRoom_28 : decode c_wt_makeRoom 28 = .ok (.invokevirtual 54, 3) := by decide +kernel
theorem d_wt_makeRoom_31 : decode c_wt_makeRoom 31 = .ok (.pop, 1) := by decide +kernel
theorem d_wt_makeRoom_32 : decode c_wt_makeRoom 32 = .ok (.iconst (-1), 1) := by decide +kernel
theorem d_wt_makeRoom_33 : decode c_wt_makeRoom 33 = .ok (.ireturn, 1) := by decide +kernel
theorem d_wt_makeRoom_34 : decode c_wt_makeRoom 34 = .ok (.iload_n 3, 1) := by decide +kernel
theorem d_wt_makeRoom_35 : decode c_wt_makeRoom 35 = .ok (.istore 4, 2) := by decide +kernel
theorem d_wt_makeRoom_37 : decode c_wt_makeRoom 37 = .ok (.iload 4, 2) := by decide +kernel
theorem d_wt_makeRoom_39 : decode c_wt_makeRoom 39 = .ok (.iload_n 3, 1) := by decide +kernel
theorem d_wt_makeRoom_40 : decode c_wt_makeRoom 40 = .ok (.iload_n 1, 1) := by decide +kernel
theorem d_wt_makeRoom_41 : decode c_wt_makeRoom 41 = .ok (.iadd, 1) := by decide +kernel
theorem d_wt_makeRoom_42 : decode c_wt_makeRoom 42 = .ok (.if_icmp .ge 20, 3) := by decide +kernel
theorem d_wt_makeRoom_45 : decode c_wt_makeRoom 45 = .ok (.aload_n 0, 1) := by decide +kernel
theorem d_wt_makeRoom_46 : decode c_wt_makeRoom 46 = .ok (.getfield 19, 3) := by decide +kernel
theorem d_wt_makeRoom_49 : decode c_wt_makeRoom 49 = .ok (.getfield 60, 3) := by decide +kernel
theorem d_wt_makeRoom_52 : decode c_wt_makeRoom 52 = .ok (.iload 4, 2) := by decide +kernel
theorem d_wt_makeRoom_54 : decode c_wt_makeRoom 54 = .ok (.iconst 0, 1) := by decide +kernel
theorem d_wt_makeRoom_55 : decode c_wt_makeRoom 55 = .ok (.iastore, 1) := by decide +kernel
theorem d_wt_makeRoom_56 : decode c_wt_makeRoom 56 = .ok (.iinc 4 1, 3) := by decide +kernel
theorem d_wt_makeRoom_59 : decode c_wt_makeRoom 59 = .ok (.goto (-22), 3) := by decide +kernel
theorem d_wt_makeRoom_62 : decode c_wt_makeRoom 62 = .ok (.aload_n 0, 1) := by decide +kernel
theorem d_wt_makeRoom_63 : decode c_wt_makeRoom 63 = .ok (.getfield 19, 3) := by decide +kernel
theorem d_wt_makeRoom_66 : decode c_wt_makeRoom 66 = .ok (.iload_n 3, 1) := by decide +kernel
theorem d_wt_makeRoom_67 : decode c_wt_makeRoom 67 = .ok (.iload_n 1, 1) := by decide +kernel
theorem d_wt_makeRoom_68 : decode c_wt_makeRoom 68 = .ok (.iadd, 1) := by decide +kernel
theorem d_wt_makeRoom_69 : decode c_wt_makeRoom 69 = .ok (.putfield 46, 3) := by decide +kernel
theorem d_wt_makeRoom_72 : decode c_wt_makeRoom 72 = .ok (.iload_n 3, 1) := by decide +kernel
theorem d_wt_makeRoom_73 : decode c_wt_makeRoom 73 = .ok (.ireturn, 1) := by decide +kernel
theorem d_wt_writesText_0 : decode c_wt_writesText 0 = .ok (.aload_n 0, 1) := by decide +kernel
theorem d_wt_writesText_1 : decode c_wt_writesText 1 = .ok (.getfield 22, 3) := by decide +kernel
theorem d_wt_writesText_4 : decode c_wt_writesText 4 = .ok (.getfield 97, 3) := by decide +kernel
theorem d_wt_writesText_7 : decode c_wt_writesText 7 = .ok (.iload_n 1, 1) := by decide +kernel
theorem d_wt_writesText_8 : decode c_wt_writesText 8 = .ok (.iaload, 1) := by decide +kernel
theorem d_wt_writesText_9 : decode c_wt_writesText 9 = .ok (.istore_n 3, 1) := by decide +kernel
theorem d_wt_writesText_10 : decode c_wt_writesText 10 = .ok (.aload_n 0, 1) := by decide +kernel
theorem d_wt_writesText_11 : decode c_wt_writesText 11 = .ok (.iload_n 3, 1) := by decide +kernel
theorem d_wt_writesText_12 : decode c_wt_writesText 12 = .ok (.iconst 1, 1) := by decide +kernel
theorem d_wt_writesText_13 : decode c_wt_writesText 13 = .ok (.invokevirtual 38, 3) := by decide +kernel
theorem d_wt_writesText_16 : decode c_wt_writesText 16 = .ok (.istore 4, 2) := by decide +kernel
theorem d_wt_writesText_18 : decode c_wt_writesText 18 = .ok (.iload 4, 2) := by decide +kernel
theorem d_wt_writesText_20 : decode c_wt_writesText 20 = .ok (.iconst (-1), 1) := by decide +kernel
theorem d_wt_writesText_21 : decode c_wt_writesText 21 = .ok (.if_icmp .ne 5, 3) := by decide +kernel
theorem d_wt_writesText_24 : decode c_wt_writesText 24 = .ok (.iconst 0, 1) := by decide +kernel
theorem d_wt_writesText_25 : decode c_wt_writesText 25 = .ok (.ireturn, 1) := by decide +kernel
theorem d_wt_writesText_26 : decode c_wt_writesText 26 = .ok (.aload_n 0, 1) := by decide +kernel
theorem d_wt_writesText_27 : decode c_wt_writesText 27 = .ok (.getfield 19, 3) := by decide +kernel
theorem d_wt_writesText_30 : decode c_wt_writesText 30 = .ok (.iload_n 2, 1) := by decide +kernel
theorem d_wt_writesText_31 : decode c_wt_writesText 31 = .ok (.iconst 4, 1) := by decide +kernel
theorem d_wt_writesText_32 : decode c_wt_writesText 32 = .ok (.iload 4, 2) := by decide +kernel
theorem d_wt_writesText_34 : decode c_wt_writesText 34 = .ok (.iload_n 3, 1) := by decide +kernel
theorem d_wt_writesText_35 : decode c_wt_writesText 35 = .ok (.invokestatic 100, 3) := by decide +kernel
theorem d_wt_writesText_38 : decode c_wt_writesText 38 = .ok (.invokevirtual 93, 3) := by decide +kernel
theorem d_wt_writesText_41 : decode c_wt_writesText 41 = .ok (.aload_n 0, 1) := by decide +kernel
theorem d_wt_writesText_42 : decode c_wt_writesText 42 = .ok (.getfield 22, 3) := by decide +kernel
theorem d_wt_writesText_45 : decode c_wt_writesText 45 = .ok (.getfield 87, 3) := by decide +kernel
theorem d_wt_writesText_48 : decode c_wt_writesText 48 = .ok (.iload_n 1, 1) := by decide +kernel
theorem d_wt_writesText_49 : decode c_wt_writesText 49 = .ok (.laload, 1) := by decide +kernel
theorem d_wt_writesText_50 : decode c_wt_writesText 50 = .ok (.l2i, 1) := by decide +kernel
theorem d_wt_writesText_51 : decode c_wt_writesText 51 = .ok (.istore 5, 2) := by decide +kernel
theorem d_wt_writesText_53 : decode c_wt_writesText 53 = .ok (.iconst 0, 1) := by decide +kernel
theorem d_wt_writesText_54 : decode c_wt_writesText 54 = .ok (.istore 6, 2) := by decide +kernel
theorem d_wt_writesText_56 : decode c_wt_writesText 56 = .ok (.iload 6, 2) := by decide +kernel
theorem d_wt_writesText_58 : decode c_wt_writesText 58 = .ok (.iload_n 3, 1) := by decide +kernel
theorem d_wt_writesText_59 : decode c_wt_writesText 59 = .ok (.if_icmp .ge 35, 3) := by decide +kernel
theorem d_wt_writesText_62 : decode c_wt_writesText 62 = .ok (.aload_n 0, 1) := by decide +kernel
theorem d_wt_writesText_63 : decode c_wt_writesText 63 = .ok (.getfield 19, 3) := by decide +kernel
theorem d_wt_writesText_66 : decode c_wt_writesText 66 = .ok (.getfield 60, 3) := by decide +kernel
theorem d_wt_writesText_69 : decode c_wt_writesText 69 = .ok (.iload 4, 2) := by decide +kernel
theorem d_wt_writesText_71 : decode c_wt_writesText 71 = .ok (.iload 6, 2) := by decide +kernel
theorem d_wt_writesText_73 : decode c_wt_writesText 73 = .ok (.iadd, 1) := by decide +kernel
theorem d_wt_writesText_74 : decode c_wt_writesText 74 = .ok (.aload_n 0, 1) := by decide +kernel
theorem d_wt_writesText_75 : decode c_wt_writesText 75 = .ok (.getfield 15, 3) := by decide +kernel
theorem d_wt_writesText_78 : decode c_wt_writesText 78 = .ok (.getfield 60, 3) := by decide +kernel
theorem d_wt_writesText_81 : decode c_wt_writesText 81 = .ok (.iload 5, 2) := by decide +kernel
theorem d_wt_writesText_83 : decode c_wt_writesText 83 = .ok (.iload 6, 2) := by decide +kernel
theorem d_wt_writesText_85 : decode c_wt_writesText 85 = .ok (.iadd, 1) := by decide +kernel
theorem d_wt_writesText_86 : decode c_wt_writesText 86 = .ok (.iaload, 1) := by decide +kernel
theorem d_wt_writesText_87 : decode c_wt_writesText 87 = .ok (.iastore, 1) := by decide +kernel
theorem d_wt_writesText_88 : decode c_wt_writesText 88 = .ok (.iinc 6 1, 3) := by decide +kernel
theorem d_wt_writesText_91 : decode c_wt_writesText 91 = .ok (.goto (-35), 3) := by decide +kernel
theorem d_wt_writesText_94 : decode c_wt_writesText 94 = .ok (.iconst 1, 1) := by decide +kernel
theorem d_wt_writesText_95 : decode c_wt_writesText 95 = .ok (.ireturn, 1) := by decide +kernel
theorem d_wt_writesHandle_0 : decode c_wt_writesHandle 0 = .ok (.aload_n 0, 1) := by decide +kernel
theorem d_wt_writesHandle_1 : decode c_wt_writesHandle 1 = .ok (.getfield 19, 3) := by decide +kernel
theorem d_wt_writesHandle_4 : decode c_wt_writesHandle 4 = .ok (.invokevirtual 110, 3) := by decide +kernel
theorem d_wt_writesHandle_7 : decode c_wt_writesHandle 7 = .ok (.istore 4, 2) := by decide +kernel
theorem d_wt_writesHandle_9 : decode c_wt_writesHandle 9 = .ok (.iload 4, 2) := by decide +kernel
theorem d_wt_writesHandle_11 : decode c_wt_writesHandle 11 = .ok (.iconst (-1), 1) := by decide +kernel
theorem d_wt_writesHandle_12 : decode c_wt_writesHandle 12 = .ok (.if_icmp .ne 22, 3) := by decide +kernel
theorem d_wt_writesHandle_15 : decode c_wt_writesHandle 15 = .ok (.aload_n 0, 1) := by decide +kernel
theorem d_wt_writesHandle_16 : decode c_wt_writesHandle 16 = .ok (.getfield 26, 3) := by decide +kernel
theorem d_wt_writesHandle_19 : decode c_wt_writesHandle 19 = .ok (.bipush 12, 2) := by decide +kernel
theorem d_wt_writesHandle_21 : decode c_wt_writesHandle 21 = .ok (.aload_n 0, 1) := by decide +kernel
theorem d_wt_writesHandle_22 : decode c_wt_writesHandle 22 = .ok (.getfield 22, 3) := by decide +kernel
theorem d_wt_writesHandle_25 : decode c_wt_writesHandle 25 = .ok (.getfield 114, 3) := by decide +kernel
theorem d_wt_writesHandle_28 : decode c_wt_writesHandle 28 = .ok (.iload_n 1, 1) := by decide +kernel
theorem d_wt_writesHandle_29 : decode c_wt_writesHandle 29 = .ok (.iaload, 1) := by decide +kernel
theorem d_wt_writesHandle_30 : decode c_wt_writesHandle 30 = .ok (.invokevirtual 54, 3) := by decide +kernel
theorem d_wt_writesHandle_33 : decode c_wt_writesHandle 33 = .ok (.ireturn, 1) := by decide +kernel
theorem d_wt_writesHandle_34 : decode c_wt_writesHandle 34 = .ok (.aload_n 0, 1) := by decide +kernel
theorem d_wt_writesHandle_35 : decode c_wt_writesHandle 35 = .ok (.getfield 15, 3) := by decide +kernel
theorem d_wt_writesHandle_38 : decode c_wt_writesHandle 38 = .ok (.getfield 117, 3) := by decide +kernel
theorem d_wt_writesHandle_41 : decode c_wt_writesHandle 41 = .ok (.aload_n 0, 1) := by decide +kernel
theorem d_wt_writesHandle_42 : decode c_wt_writesHandle 42 = .ok (.getfield 22, 3) := by decide +kernel
theorem d_wt_writesHandle_45 : decode c_wt_writesHandle 45 = .ok (.getfield 87, 3) := by decide +kernel
theorem d_wt_writesHandle_48 : decode c_wt_writesHandle 48 = .ok (.iload_n 1, 1) := by decide +kernel
theorem d_wt_writesHandle_49 : decode c_wt_writesHandle 49 = .ok (.laload, 1) := by decide +kernel
theorem d_wt_writesHandle_50 : decode c_wt_writesHandle 50 = .ok (.l2i, 1) := by decide +kernel
theorem d_wt_writesHandle_51 : decode c_wt_writesHandle 51 = .ok (.iconst 1, 1) := by decide +kernel
theorem d_wt_writesHandle_52 : decode c_wt_writesHandle 52 = .ok (.isub, 1) := by decide +kernel
theorem d_wt_writesHandle_53 : decode c_wt_writesHandle 53 = .ok (.aaload, 1) := by decide +kernel
theorem d_wt_writesHandle_54 : decode c_wt_writesHandle 54 = .ok (.astore 5, 2) := by decide +kernel
theorem d_wt_writesHandle_56 : decode c_wt_writesHandle 56 = .ok (.aload_n 0, 1) := by decide +kernel
theorem d_wt_writesHandle_57 : decode c_wt_writesHandle 57 = .ok (.getfield 19, 3) := by decide +kernel
theorem d_wt_writesHandle_60 : decode c_wt_writesHandle 60 = .ok (.getfield 117, 3) := by decide +kernel
theorem d_wt_writesHandle_63 : decode c_wt_writesHandle 63 = .ok (.iload 4, 2) := by decide +kernel
theorem d_wt_writesHandle_65 : decode c_wt_writesHandle 65 = .ok (.iconst 1, 1) := by decide +kernel
theorem d_wt_writesHandle_66 : decode c_wt_writesHandle 66 = .ok (.isub, 1) := by decide +kernel
theorem d_wt_writesHandle_67 : decode c_wt_writesHandle 67 = .ok (.aaload, 1) := by decide +kernel
theorem d_wt_writesHandle_68 : decode c_wt_writesHandle 68 = .ok (.astore 6, 2) := by decide +kernel
theorem d_wt_writesHandle_70 : decode c_wt_writesHandle 70 = .ok (.aload_n 2, 1) := by decide +kernel
theorem d_wt_writesHandle_71 : decode c_wt_writesHandle 71 = .ok (.getfield 64, 3) := by decide +kernel
theorem d_wt_writesHandle_74 : decode c_wt_writesHandle 74 = .ok (.bipush 11, 2) := by decide +kernel
theorem d_wt_writesHandle_76 : decode c_wt_writesHandle 76 = .ok (.if_icmp .ne 25, 3) := by decide +kernel
theorem d_wt_writesHandle_79 : decode c_wt_writesHandle 79 = .ok (.aload 6, 2) := by decide +kernel
theorem d_wt_writesHandle_81 : decode c_wt_writesHandle 81 = .ok (.aload 5, 2) := by decide +kernel
theorem d_wt_writesHandle_83 : decode c_wt_writesHandle 83 = .ok (.getfield 121, 3) := by decide +kernel
theorem d_wt_writesHandle_86 : decode c_wt_writesHandle 86 = .ok (.aload 5, 2) := by decide +kernel
theorem d_wt_writesHandle_88 : decode c_wt_writesHandle 88 = .ok (.getfield 126, 3) := by decide +kernel
theorem d_wt_writesHandle_91 : decode c_wt_writesHandle 91 = .ok (.getstatic 127, 3) := by decide +kernel
theorem d_wt_writesHandle_94 : decode c_wt_writesHandle 94 = .ok (.aconst_null, 1) := by decide +kernel
theorem d_wt_writesHandle_95 : decode c_wt_writesHandle 95 = .ok (.invokevirtual 133, 3) := by decide +kernel
theorem d_wt_writesHandle_98 : decode c_wt_writesHandle 98 = .ok (.goto 23, 3) := by decide +kernel
theorem d_wt_writesHandle_101 : decode c_wt_writesHandle 101 = .ok (.aload 6, 2) := by decide +kernel
theorem d_wt_writesHandle_103 : decode c_wt_writesHandle 103 = .ok (.aload 5, 2) := by decide +kernel
theorem d_wt_writesHandle_105 : decode c_wt_writesHandle 105 = .ok (.getfield 121, 3) := by decide +kernel
theorem d_wt_writesHandle_108 : decode c_wt_writesHandle 108 = .ok (.aload 5, 2) := by decide +kernel
theorem d_wt_writesHandle_110 : decode c_wt_writesHandle 110 = .ok (.getfield 126, 3) := by decide +kernel
theorem d_wt_writesHandle_113 : decode c_wt_writesHandle 113 = .ok (.getstatic 137, 3) := by decide +kernel
theorem d_wt_writesHandle_116 : decode c_wt_writesHandle 116 = .ok (.aload 5, 2) := by decide +kernel
theorem d_wt_writesHandle_118 : decode c_wt_writesHandle 118 = .ok (.invokevirtual 133, 3) := by decide +kernel
theorem d_wt_writesHandle_121 : decode c_wt_writesHandle 121 = .ok (.aload_n 0, 1) := by decide +kernel
theorem d_wt_writesHandle_122 : decode c_wt_writesHandle 122 = .ok (.getfield 19, 3) := by decide +kernel
theorem d_wt_writesHandle_125 : decode c_wt_writesHandle 125 = .ok (.iload_n 3, 1) := by decide +kernel
theorem d_wt_writesHandle_126 : decode c_wt_writesHandle 126 = .ok (.iconst 1, 1) := by decide +kernel
theorem d_wt_writesHandle_127 : decode c_wt_writesHandle 127 = .ok (.iload 4, 2) := by decide +kernel
theorem d_wt_writesHandle_129 : decode c_wt_writesHandle 129 = .ok (.i2l, 1) := by decide +kernel
theorem d_wt_writesHandle_130 : decode c_wt_writesHandle 130 = .ok (.invokevirtual 93, 3) := by decide +kernel
theorem d_wt_writesHandle_133 : decode c_wt_writesHandle 133 = .ok (.iconst 1, 1) := by decide +kernel
theorem d_wt_writesHandle_134 : decode c_wt_writesHandle 134 = .ok (.ireturn, 1) := by decide +kernel
theorem d_wt_writesList_0 : decode c_wt_writesList 0 = .ok (.aload_n 0, 1) := by decide +kernel
theorem d_wt_writesList_1 : decode c_wt_writesList 1 = .ok (.getfield 22, 3) := by decide +kernel
theorem d_wt_writesList_4 : decode c_wt_writesList 4 = .ok (.getfield 97, 3) := by decide +kernel
theorem d_wt_writesList_7 : decode c_wt_writesList 7 = .ok (.iload_n 1, 1) := by decide +kernel
theorem d_wt_writesList_8 : decode c_wt_writesList 8 = .ok (.iaload, 1) := by decide +kernel
theorem d_wt_writesList_9 : decode c_wt_writesList 9 = .ok (.istore 4, 2) := by decide +kernel
theorem d_wt_writesList_11 : decode c_wt_writesList 11 = .ok (.aload_n 0, 1) := by decide +kernel
theorem d_wt_writesList_12 : decode c_wt_writesList 12 = .ok (.iload 4, 2) := by decide +kernel
theorem d_wt_writesList_14 : decode c_wt_writesList 14 = .ok (.aload_n 2, 1) := by decide +kernel
theorem d_wt_writesList_15 : decode c_wt_writesList 15 = .ok (.getfield 30, 3) := by decide +kernel
theorem d_wt_writesList_18 : decode c_wt_writesList 18 = .ok (.imul, 1) := by decide +kernel
theorem d_wt_writesList_19 : decode c_wt_writesList 19 = .ok (.aload_n 2, 1) := by decide +kernel
theorem d_wt_writesList_20 : decode c_wt_writesList 20 = .ok (.getfield 35, 3) := by decide +kernel
theorem d_wt_writesList_23 : decode c_wt_writesList 23 = .ok (.invokevirtual 38, 3) := by decide +kernel
theorem d_wt_writesList_26 : decode c_wt_writesList 26 = .ok (.istore 5, 2) := by decide +kernel
theorem d_wt_writesList_28 : decode c_wt_writesList 28 = .ok (.iload 5, 2) := by decide +kernel
theorem d_wt_writesList_30 : decode c_wt_writesList 30 = .ok (.iconst (-1), 1) := by decide +kernel
theorem d_wt_writesList_31 : decode c_wt_writesList 31 = .ok (.if_icmp .ne 5, 3) := by decide +kernel
theorem d_wt_writesList_34 : decode c_wt_writesList 34 = .ok (.iconst 0, 1) := by decide +kernel
theorem d_wt_writesList_35 : decode c_wt_writesList 35 = .ok (.ireturn, 1) := by decide +kernel
theorem d_wt_writesList_36 : decode c_wt_writesList 36 = .ok (.aload_n 0, 1) := by decide +kernel
theorem d_wt_writesList_37 : decode c_wt_writesList 37 = .ok (.getfield 19, 3) := by decide +kernel
theorem d_wt_writesList_40 : decode c_wt_writesList 40 = .ok (.iload_n 3, 1) := by decide +kernel
theorem d_wt_writesList_41 : decode c_wt_writesList 41 = .ok (.iconst 4, 1) := by decide +kernel
theorem d_wt_writesList_42 : decode c_wt_writesList 42 = .ok (.iload 5, 2) := by decide +kernel
theorem d_wt_writesList_44 : decode c_wt_writesList 44 = .ok (.iload 4, 2) := by decide +kernel
theorem d_wt_writesList_46 : decode c_wt_writesList 46 = .ok (.invokestatic 100, 3) := by decide +kernel
theorem d_wt_writesList_49 : decode c_wt_writesList 49 = .ok (.invokevirtual 93, 3) := by decide +kernel
theorem d_wt_writesList_52 : decode c_wt_writesList 52 = .ok (.iconst 0, 1) := by decide +kernel
theorem d_wt_writesList_53 : decode c_wt_writesList 53 = .ok (.istore 6, 2) := by decide +kernel
theorem d_wt_writesList_55 : decode c_wt_writesList 55 = .ok (.iload 6, 2) := by decide +kernel
theorem d_wt_writesList_57 : decode c_wt_writesList 57 = .ok (.iload 4, 2) := by decide +kernel
theorem d_wt_writesList_59 : decode c_wt_writesList 59 = .ok (.if_icmp .ge 29, 3) := by decide +kernel
theorem d_wt_writesList_62 : decode c_wt_writesList 62 = .ok (.aload_n 0, 1) := by decide +kernel
theorem d_wt_writesList_63 : decode c_wt_writesList 63 = .ok (.aload_n 2, 1) := by decide +kernel
theorem d_wt_writesList_64 : decode c_wt_writesList 64 = .ok (.iload 5, 2) := by decide +kernel
theorem d_wt_writesList_66 : decode c_wt_writesList 66 = .ok (.iload 6, 2) := by decide +kernel
theorem d_wt_writesList_68 : decode c_wt_writesList 68 = .ok (.aload_n 2, 1) := by decide +kernel
theorem d_wt_writesList_69 : decode c_wt_writesList 69 = .ok (.getfield 30, 3) := by decide +kernel
theorem d_wt_writesList_72 : decode c_wt_writesList 72 = .ok (.imul, 1) := by decide +kernel
theorem d_wt_writesList_73 : decode c_wt_writesList 73 = .ok (.iadd, 1) := by decide +kernel
theorem d_wt_writesList_74 : decode c_wt_writesList 74 = .ok (.invokevirtual 42, 3) := by decide +kernel
theorem d_wt_writesList_77 : decode c_wt_writesList 77 = .ok (.ifCond .ne 5, 3) := by decide +kernel
theorem d_wt_writesList_80 : decode c_wt_writesList 80 = .ok (.iconst 0, 1) := by decide +kernel
theorem d_wt_writesList_81 : decode c_wt_writesList 81 = .ok (.ireturn, 1) := by decide +kernel
theorem d_wt_writesList_82 : decode c_wt_writesList 82 = .ok (.iinc 6 1, 3) := by decide +kernel
theorem d_wt_writesList_85 : decode c_wt_writesList 85 = .ok (.goto (-30), 3) := by decide +kernel
theorem d_wt_writesList_88 : decode c_wt_writesList 88 = .ok (.iconst 1, 1) := by decide +kernel
theorem d_wt_writesList_89 : decode c_wt_writesList 89 = .ok (.ireturn, 1) := by decide +kernel
theorem d_wt_writesRecord_0 : decode c_wt_writesRecord 0 = .ok (.iconst 0, 1) := by decide +kernel
theorem d_wt_writesRecord_1 : decode c_wt_writesRecord 1 = .ok (.istore_n 3, 1) := by decide +kernel
theorem d_wt_writesRecord_2 : decode c_wt_writesRecord 2 = .ok (.iload_n 3, 1) := by decide +kernel
theorem d_wt_writesRecord_3 : decode c_wt_writesRecord 3 = .ok (.aload_n 1, 1) := by decide +kernel
theorem d_wt_writesRecord_4 : decode c_wt_writesRecord 4 = .ok (.getfield 104, 3) := by decide +kernel
theorem d_wt_writesRecord_7 : decode c_wt_writesRecord 7 = .ok (.if_icmp .ge 32, 3) := by decide +kernel
theorem d_wt_writesRecord_10 : decode c_wt_writesRecord 10 = .ok (.aload_n 0, 1) := by decide +kernel
theorem d_wt_writesRecord_11 : decode c_wt_writesRecord 11 = .ok (.aload_n 1, 1) := by decide +kernel
theorem d_wt_writesRecord_12 : decode c_wt_writesRecord 12 = .ok (.getfield 70, 3) := by decide +kernel
theorem d_wt_writesRecord_15 : decode c_wt_writesRecord 15 = .ok (.iload_n 3, 1) := by decide +kernel
theorem d_wt_writesRecord_16 : decode c_wt_writesRecord 16 = .ok (.aaload, 1) := by decide +kernel
theorem d_wt_writesRecord_17 : decode c_wt_writesRecord 17 = .ok (.iload_n 2, 1) := by decide +kernel
theorem d_wt_writesRecord_18 : decode c_wt_writesRecord 18 = .ok (.aload_n 1, 1) := by decide +kernel
theorem d_wt_writesRecord_19 : decode c_wt_writesRecord 19 = .ok (.getfield 107, 3) := by decide +kernel
theorem d_wt_writesRecord_22 : decode c_wt_writesRecord 22 = .ok (.iload_n 3, 1) := by decide +kernel
theorem d_wt_writesRecord_23 : decode c_wt_writesRecord 23 = .ok (.iaload, 1) := by decide +kernel
theorem d_wt_writesRecord_24 : decode c_wt_writesRecord 24 = .ok (.iadd, 1) := by decide +kernel
theorem d_wt_writesRecord_25 : decode c_wt_writesRecord 25 = .ok (.invokevirtual 42, 3) := by decide +kernel
theorem d_wt_writesRecord_28 : decode c_wt_writesRecord 28 = .ok (.ifCond .ne 5, 3) := by decide +kernel
theorem d_wt_writesRecord_31 : decode c_wt_writesRecord 31 = .ok (.iconst 0, 1) := by decide +kernel
theorem d_wt_writesRecord_32 : decode c_wt_writesRecord 32 = .ok (.ireturn, 1) := by decide +kernel
theorem d_wt_writesRecord_33 : decode c_wt_writesRecord 33 = .ok (.iinc 3 1, 3) := by decide +kernel
theorem d_wt_writesRecord_36 : decode c_wt_writesRecord 36 = .ok (.goto (-34), 3) := by decide +kernel
theorem d_wt_writesRecord_39 : decode c_wt_writesRecord 39 = .ok (.iconst 1, 1) := by decide +kernel
theorem d_wt_writesRecord_40 : decode c_wt_writesRecord 40 = .ok (.ireturn, 1) := by decide +kernel
theorem d_wt_writesVariant_0 : decode c_wt_writesVariant 0 = .ok (.aload_n 0, 1) := by decide +kernel
theorem d_wt_writesVariant_1 : decode c_wt_writesVariant 1 = .ok (.getfield 22, 3) := by decide +kernel
theorem d_wt_writesVariant_4 : decode c_wt_writesVariant 4 = .ok (.getfield 87, 3) := by decide +kernel
theorem d_wt_writesVariant_7 : decode c_wt_writesVariant 7 = .ok (.iload_n 1, 1) := by decide +kernel
theorem d_wt_writesVariant_8 : decode c_wt_writesVariant 8 = .ok (.laload, 1) := by decide +kernel
theorem d_wt_writesVariant_9 : decode c_wt_writesVariant 9 = .ok (.l2i, 1) := by decide +kernel
theorem d_wt_writesVariant_10 : decode c_wt_writesVariant 10 = .ok (.istore 4, 2) := by decide +kernel
theorem d_wt_writesVariant_12 : decode c_wt_writesVariant 12 = .ok (.aload_n 0, 1) := by decide +kernel
theorem d_wt_writesVariant_13 : decode c_wt_writesVariant 13 = .ok (.getfield 19, 3) := by decide +kernel
theorem d_wt_writesVariant_16 : decode c_wt_writesVariant 16 = .ok (.iload_n 3, 1) := by decide +kernel
theorem d_wt_writesVariant_17 : decode c_wt_writesVariant 17 = .ok (.iconst 1, 1) := by decide +kernel
theorem d_wt_writesVariant_18 : decode c_wt_writesVariant 18 = .ok (.iload 4, 2) := by decide +kernel
theorem d_wt_writesVariant_20 : decode c_wt_writesVariant 20 = .ok (.i2l, 1) := by decide +kernel
theorem d_wt_writesVariant_21 : decode c_wt_writesVariant 21 = .ok (.invokevirtual 93, 3) := by decide +kernel
theorem d_wt_writesVariant_24 : decode c_wt_writesVariant 24 = .ok (.aload_n 0, 1) := by decide +kernel
theorem d_wt_writesVariant_25 : decode c_wt_writesVariant 25 = .ok (.aload_n 2, 1) := by decide +kernel
theorem d_wt_writesVariant_26 : decode c_wt_writesVariant 26 = .ok (.getfield 70, 3) := by decide +kernel
theorem d_wt_writesVariant_29 : decode c_wt_writesVariant 29 = .ok (.iload 4, 2) := by decide +kernel
theorem d_wt_writesVariant_31 : decode c_wt_writesVariant 31 = .ok (.aaload, 1) := by decide +kernel
theorem d_wt_writesVariant_32 : decode c_wt_writesVariant 32 = .ok (.iload_n 3, 1) := by decide +kernel
theorem d_wt_writesVariant_33 : decode c_wt_writesVariant 33 = .ok (.aload_n 2, 1) := by decide +kernel
theorem d_wt_writesVariant_34 : decode c_wt_writesVariant 34 = .ok (.getfield 107, 3) := by decide +kernel
theorem d_wt_writesVariant_37 : decode c_wt_writesVariant 37 = .ok (.iload 4, 2) := by decide +kernel
theorem d_wt_writesVariant_39 : decode c_wt_writesVariant 39 = .ok (.iaload, 1) := by decide +kernel
theorem d_wt_writesVariant_40 : decode c_wt_writesVariant 40 = .ok (.iadd, 1) := by decide +kernel
theorem d_wt_writesVariant_41 : decode c_wt_writesVariant 41 = .ok (.invokevirtual 42, 3) := by decide +kernel
theorem d_wt_writesVariant_44 : decode c_wt_writesVariant 44 = .ok (.ireturn, 1) := by decide +kernel
theorem d_wt_placeWritten_0 : decode c_wt_placeWritten 0 = .ok (.aload_n 0, 1) := by decide +kernel
theorem d_wt_placeWritten_1 : decode c_wt_placeWritten 1 = .ok (.aload_n 1, 1) := by decide +kernel
theorem d_wt_placeWritten_2 : decode c_wt_placeWritten 2 = .ok (.getfield 30, 3) := by decide +kernel
theorem d_wt_placeWritten_5 : decode c_wt_placeWritten 5 = .ok (.aload_n 1, 1) := by decide +kernel
theorem d_wt_placeWritten_6 : decode c_wt_placeWritten 6 = .ok (.getfield 35, 3) := by decide +kernel
theorem d_wt_placeWritten_9 : decode c_wt_placeWritten 9 = .ok (.invokevirtual 38, 3) := by decide +kernel
theorem d_wt_placeWritten_12 : decode c_wt_placeWritten 12 = .ok (.istore_n 2, 1) := by decide +kernel
theorem d_wt_placeWritten_13 : decode c_wt_placeWritten 13 = .ok (.iload_n 2, 1) := by decide +kernel
theorem d_wt_placeWritten_14 : decode c_wt_placeWritten 14 = .ok (.iconst (-1), 1) := by decide +kernel
theorem d_wt_placeWritten_15 : decode c_wt_placeWritten 15 = .ok (.if_icmp .eq 16, 3) := by decide +kernel
theorem d_wt_placeWritten_18 : decode c_wt_placeWritten 18 = .ok (.aload_n 0, 1) := by decide +kernel
theorem d_wt_placeWritten_19 : decode c_wt_placeWritten 19 = .ok (.aload_n 1, 1) := by decide +kernel
theorem d_wt_placeWritten_20 : decode c_wt_placeWritten 20 = .ok (.iload_n 2, 1) := by decide +kernel
theorem d_wt_placeWritten_21 : decode c_wt_placeWritten 21 = .ok (.invokevirtual 42, 3) := by decide +kernel
theorem d_wt_placeWritten_24 : decode c_wt_placeWritten 24 = .ok (.ifCond .eq 7, 3) := by decide +kernel
theorem d_wt_placeWritten_27 : decode c_wt_placeWritten 27 = .ok (.iload_n 2, 1) := by decide +kernel
theorem d_wt_placeWritten_28 : decode c_wt_placeWritten 28 = .ok (.goto 4, 3) := by decide +kernel
theorem d_wt_placeWritten_31 : decode c_wt_placeWritten 31 = .ok (.iconst (-1), 1) := by decide +kernel
theorem d_wt_placeWritten_32 : decode c_wt_placeWritten 32 = .ok (.ireturn, 1) := by decide +kernel
