theorem d_hc_endAllCalls_0 : decode c_hc_endAllCalls 0 = .ok (.aload_n 0, 1) := by decide +kernel
theorem d_hc_endAllCalls_1 : decode c_hc_endAllCalls 1 = .ok (.iload_n 1, 1) := by decide +kernel
theorem d_hc_endAllCalls_2 : decode c_hc_endAllCalls 2 = .ok (.putfield 79, 3) := by decide +kernel
theorem d_hc_endAllCalls_5 : decode c_hc_endAllCalls 5 = .ok (.iconst 0, 1) := by decide +kernel
theorem d_hc_endAllCalls_6 : decode c_hc_endAllCalls 6 = .ok (.istore_n 2, 1) := by decide +kernel
theorem d_hc_endAllCalls_7 : decode c_hc_endAllCalls 7 = .ok (.iload_n 2, 1) := by decide +kernel
theorem d_hc_endAllCalls_8 : decode c_hc_endAllCalls 8 = .ok (.aload_n 0, 1) := by decide +kernel
theorem d_hc_endAllCalls_9 : decode c_hc_endAllCalls 9 = .ok (.getfield 53, 3) := by decide +kernel
theorem d_hc_endAllCalls_12 : decode c_hc_endAllCalls 12 = .ok (.if_icmp .ge 24, 3) := by decide +kernel
theorem d_hc_endAllCalls_15 : decode c_hc_endAllCalls 15 = .ok (.aload_n 0, 1) := by decide +kernel
theorem d_hc_endAllCalls_16 : decode c_hc_endAllCalls 16 = .ok (.getfield 27, 3) := by decide +kernel
theorem d_hc_endAllCalls_19 : decode c_hc_endAllCalls 19 = .ok (.aload_n 0, 1) := by decide +kernel
theorem d_hc_endAllCalls_20 : decode c_hc_endAllCalls 20 = .ok (.getfield 43, 3) := by decide +kernel
theorem d_hc_endAllCalls_23 : decode c_hc_endAllCalls 23 = .ok (.iload_n 2, 1) := by decide +kernel
theorem d_hc_endAllCalls_24 : decode c_hc_endAllCalls 24 = .ok (.iaload, 1) := by decide +kernel
theorem d_hc_endAllCalls_25 : decode c_hc_endAllCalls 25 = .ok (.aaload, 1) := by decide +kernel
theorem d_hc_endAllCalls_26 : decode c_hc_endAllCalls 26 = .ok (.iconst 0, 1) := by decide +kernel
theorem d_hc_endAllCalls_27 : decode c_hc_endAllCalls 27 = .ok (.putfield 182, 3) := by decide +kernel
theorem d_hc_endAllCalls_30 : decode c_hc_endAllCalls 30 = .ok (.iinc 2 1, 3) := by decide +kernel
theorem d_hc_endAllCalls_33 : decode c_hc_endAllCalls 33 = .ok (.goto (-26), 3) := by decide +kernel
theorem d_hc_endAllCalls_36 : decode c_hc_endAllCalls 36 = .ok (.aload_n 0, 1) := by decide +kernel
theorem d_hc_endAllCalls_37 : decode c_hc_endAllCalls 37 = .ok (.getfield 27, 3) := by decide +kernel
theorem d_hc_endAllCalls_40 : decode c_hc_endAllCalls 40 = .ok (.iload_n 1, 1) := by decide +kernel
theorem d_hc_endAllCalls_41 : decode c_hc_endAllCalls 41 = .ok (.aaload, 1) := by decide +kernel
theorem d_hc_endAllCalls_42 : decode c_hc_endAllCalls 42 = .ok (.iconst 2, 1) := by decide +kernel
theorem d_hc_endAllCalls_43 : decode c_hc_endAllCalls 43 = .ok (.putfield 182, 3) := by decide +kernel
theorem d_hc_endAllCalls_46 : decode c_hc_endAllCalls 46 = .ok (.aload_n 0, 1) := by decide +kernel
theorem d_hc_endAllCalls_47 : decode c_hc_endAllCalls 47 = .ok (.iconst 0, 1) := by decide +kernel
theorem d_hc_endAllCalls_48 : decode c_hc_endAllCalls 48 = .ok (.putfield 53, 3) := by decide +kernel
theorem d_hc_endAllCalls_51 : decode c_hc_endAllCalls 51 = .ok (.iconst 0, 1) := by decide +kernel
theorem d_hc_endAllCalls_52 : decode c_hc_endAllCalls 52 = .ok (.istore_n 2, 1) := by decide +kernel
theorem d_hc_endAllCalls_53 : decode c_hc_endAllCalls 53 = .ok (.iload_n 2, 1) := by decide +kernel
theorem d_hc_endAllCalls_54 : decode c_hc_endAllCalls 54 = .ok (.aload_n 0, 1) := by decide +kernel
theorem d_hc_endAllCalls_55 : decode c_hc_endAllCalls 55 = .ok (.getfield 31, 3) := by decide +kernel
theorem d_hc_endAllCalls_58 : decode c_hc_endAllCalls 58 = .ok (.if_icmp .ge 30, 3) := by decide +kernel
theorem d_hc_endAllCalls_61 : decode c_hc_endAllCalls 61 = .ok (.aload_n 0, 1) := by decide +kernel
theorem d_hc_endAllCalls_62 : decode c_hc_endAllCalls 62 = .ok (.getfield 27, 3) := by decide +kernel
theorem d_hc_endAllCalls_65 : decode c_hc_endAllCalls 65 = .ok (.iload_n 2, 1) := by decide +kernel
theorem d_hc_endAllCalls_66 : decode c_hc_endAllCalls 66 = .ok (.aaload, 1) := by decide +kernel
theorem d_hc_endAllCalls_67 : decode c_hc_endAllCalls 67 = .ok (.sipush 128, 3) := by decide +kernel
theorem d_hc_endAllCalls_70 : decode c_hc_endAllCalls 70 = .ok (.putfield 297, 3) := by decide +kernel
theorem d_hc_endAllCalls_73 : decode c_hc_endAllCalls 73 = .ok (.aload_n 0, 1) := by decide +kernel
theorem d_hc_endAllCalls_74 : decode c_hc_endAllCalls 74 = .ok (.getfield 27, 3) := by decide +kernel
theorem d_hc_endAllCalls_77 : decode c_hc_endAllCalls 77 = .ok (.iload_n 2, 1) := by decide +kernel
theorem d_hc_endAllCalls_78 : decode c_hc_endAllCalls 78 = .ok (.aaload, 1) := by decide +kernel
theorem d_hc_endAllCalls_79 : decode c_hc_endAllCalls 79 = .ok (.invokevirtual 359, 3) := by decide +kernel
theorem d_hc_endAllCalls_82 : decode c_hc_endAllCalls 82 = .ok (.iinc 2 1, 3) := by decide +kernel
theorem d_hc_endAllCalls_85 : decode c_hc_endAllCalls 85 = .ok (.goto (-32), 3) := by decide +kernel
theorem d_hc_endAllCalls_88 : decode c_hc_endAllCalls 88 = .ok (.return_, 1) := by decide +kernel
theorem d_hc_passValue_0 : decode c_hc_passValue 0 = .ok (.aload_n 0, 1) := by decide +kernel
theorem d_hc_passValue_1 : decode c_hc_passValue 1 = .ok (.getfield 27, 3) := by decide +kernel
theorem d_hc_passValue_4 : decode c_hc_passValue 4 = .ok (.aload_n 0, 1) := by decide +kernel
theorem d_hc_passValue_5 : decode c_hc_passValue 5 = .ok (.invokevirtual 203, 3) := by decide +kernel
theorem d_hc_passValue_8 : decode c_hc_passValue 8 = .ok (.aaload, 1) := by decide +kernel
theorem d_hc_passValue_9 : decode c_hc_passValue 9 = .ok (.astore 5, 2) := by decide +kernel
theorem d_hc_passValue_11 : decode c_hc_passValue 11 = .ok (.aload_n 0, 1) := by decide +kernel
theorem d_hc_passValue_12 : decode c_hc_passValue 12 = .ok (.getfield 27, 3) := by decide +kernel
theorem d_hc_passValue_15 : decode c_hc_passValue 15 = .ok (.iload 4, 2) := by decide +kernel
theorem d_hc_passValue_17 : decode c_hc_passValue 17 = .ok (.aaload, 1) := by decide +kernel
theorem d_hc_passValue_18 : decode c_hc_passValue 18 = .ok (.astore 6, 2) := by decide +kernel
theorem d_hc_passValue_20 : decode c_hc_passValue 20 = .ok (.iconst (-1), 1) := by decide +kernel
theorem d_hc_passValue_21 : decode c_hc_passValue 21 = .ok (.istore 7, 2) := by decide +kernel
theorem d_hc_passValue_23 : decode c_hc_passValue 23 = .ok (.aload_n 0, 1) := by decide +kernel
theorem d_hc_passValue_24 : decode c_hc_passValue 24 = .ok (.getfield 68, 3) := by decide +kernel
theorem d_hc_passValue_27 : decode c_hc_passValue 27 = .ok (.iconst 0, 1) := by decide +kernel
theorem d_hc_passValue_28 : decode c_hc_passValue 28 = .ok (.putfield 328, 3) := by decide +kernel
theorem d_hc_passValue_31 : decode c_hc_passValue 31 = .ok (.new 331, 3) := by decide +kernel
theorem d_hc_passValue_34 : decode c_hc_passValue 34 = .ok (.dup, 1) := by decide +kernel
theorem d_hc_passValue_35 : decode c_hc_passValue 35 = .ok (.aload 5, 2) := by decide +kernel
theorem d_hc_passValue_37 : decode c_hc_passValue 37 = .ok (.aload_n 0, 1) := by decide +kernel
theorem d_hc_passValue_38 : decode c_hc_passValue 38 = .ok (.getfield 68, 3) := by decide +kernel
theorem d_hc_passValue_41 : decode c_hc_passValue 41 = .ok (.aload_n 0, 1) := by decide +kernel
theorem d_hc_passValue_42 : decode c_hc_passValue 42 = .ok (.getfield 75, 3) := by decide +kernel
theorem d_hc_passValue_45 : decode c_hc_passValue 45 = .ok (.invokespecial 333, 3) := by decide +kernel
theorem d_hc_passValue_48 : decode c_hc_passValue 48 = .ok (.aload_n 1, 1) := by decide +kernel
theorem d_hc_passValue_49 : decode c_hc_passValue 49 = .ok (.aload_n 2, 1) := by decide +kernel
theorem d_hc_passValue_50 : decode c_hc_passValue 50 = .ok (.iload_n 3, 1) := by decide +kernel
theorem d_hc_passValue_51 : decode c_hc_passValue 51 = .ok (.invokevirtual 336, 3) := by decide +kernel
theorem d_hc_passValue_54 : decode c_hc_passValue 54 = .ok (.ifCond .eq 28, 3) := by decide +kernel
theorem d_hc_passValue_57 : decode c_hc_passValue 57 = .ok (.new 340, 3) := by decide +kernel
theorem d_hc_passValue_60 : decode c_hc_passValue 60 = .ok (.dup, 1) := by decide +kernel
theorem d_hc_passValue_61 : decode c_hc_passValue 61 = .ok (.aload 5, 2) := by decide +kernel
theorem d_hc_passValue_63 : decode c_hc_passValue 63 = .ok (.aload 6, 2) := by decide +kernel
theorem d_hc_passValue_65 : decode c_hc_passValue 65 = .ok (.aload_n 0, 1) := by decide +kernel
theorem d_hc_passValue_66 : decode c_hc_passValue 66 = .ok (.getfield 68, 3) := by decide +kernel
theorem d_hc_passValue_69 : decode c_hc_passValue 69 = .ok (.aload_n 0, 1) := by decide +kernel
theorem d_hc_passValue_70 : decode c_hc_passValue 70 = .ok (.getfield 75, 3) := by decide +kernel
theorem d_hc_passValue_73 : decode c_hc_passValue 73 = .ok (.invokespecial 342, 3) := by decide +kernel
theorem d_hc_passValue_76 : decode c_hc_passValue 76 = .ok (.aload_n 2, 1) := by decide +kernel
theorem d_hc_passValue_77 : decode c_hc_passValue 77 = .ok (.invokevirtual 345, 3) := by decide +kernel
theorem d_hc_passValue_80 : decode c_hc_passValue 80 = .ok (.istore 7, 2) := by decide +kernel
theorem d_hc_passValue_82 : decode c_hc_passValue 82 = .ok (.iload 7, 2) := by decide +kernel
theorem d_hc_passValue_84 : decode c_hc_passValue 84 = .ok (.iconst (-1), 1) := by decide +kernel
theorem d_hc_passValue_85 : decode c_hc_passValue 85 = .ok (.if_icmp .ne 54, 3) := by decide +kernel
theorem d_hc_passValue_88 : decode c_hc_passValue 88 = .ok (.aload_n 0, 1) := by decide +kernel
theorem d_hc_passValue_89 : decode c_hc_passValue 89 = .ok (.getfield 75, 3) := by decide +kernel
theorem d_hc_passValue_92 : decode c_hc_passValue 92 = .ok (.getfield 282, 3) := by decide +kernel
theorem d_hc_passValue_95 : decode c_hc_passValue 95 = .ok (.bipush 11, 2) := by decide +kernel
theorem d_hc_passValue_97 : decode c_hc_passValue 97 = .ok (.if_icmp .eq 15, 3) := by decide +kernel
theorem d_hc_passValue_100 : decode c_hc_passValue 100 = .ok (.aload_n 0, 1) := by decide +kernel
theorem d_hc_passValue_101 : decode c_hc_passValue 101 = .ok (.getfield 75, 3) := by decide +kernel
theorem d_hc_passValue_104 : decode c_hc_passValue 104 = .ok (.getfield 282, 3) := by decide +kernel
theorem d_hc_passValue_107 : decode c_hc_passValue 107 = .ok (.bipush 12, 2) := by decide +kernel
theorem d_hc_passValue_109 : decode c_hc_passValue 109 = .ok (.if_icmp .ne 7, 3) := by decide +kernel
theorem d_hc_passValue_112 : decode c_hc_passValue 112 = .ok (.iconst 1, 1) := by decide +kernel
theorem d_hc_passValue_113 : decode c_hc_passValue 113 = .ok (.goto 4, 3) := by decide +kernel
theorem d_hc_passValue_116 : decode c_hc_passValue 116 = .ok (.iconst 0, 1) := by decide +kernel
theorem d_hc_passValue_117 : decode c_hc_passValue 117 = .ok (.istore 8, 2) := by decide +kernel
theorem d_hc_passValue_119 : decode c_hc_passValue 119 = .ok (.aload_n 0, 1) := by decide +kernel
theorem d_hc_passValue_120 : decode c_hc_passValue 120 = .ok (.iload 8, 2) := by decide +kernel
theorem d_hc_passValue_122 : decode c_hc_passValue 122 = .ok (.ifCond .eq 8, 3) := by decide +kernel
theorem d_hc_passValue_125 : decode c_hc_passValue 125 = .ok (.iload 4, 2) := by decide +kernel
theorem d_hc_passValue_127 : decode c_hc_passValue 127 = .ok (.goto 7, 3) := by decide +kernel
theorem d_hc_passValue_130 : decode c_hc_passValue 130 = .ok (.aload_n 0, 1) := by decide +kernel
theorem d_hc_passValue_131 : decode c_hc_passValue 131 = .ok (.invokevirtual 203, 3) := by decide +kernel
theorem d_hc_passValue_134 : decode c_hc_passValue 134 = .ok (.invokevirtual 274, 3) := by decide +kernel
theorem d_hc_passValue_137 : decode c_hc_passValue 137 = .ok (.iconst (-1), 1) := by decide +kernel
theorem d_hc_passValue_138 : decode c_hc_passValue 138 = .ok (.ireturn, 1) := by decide +kernel
theorem d_hc_passValue_139 : decode c_hc_passValue 139 = .ok (.aload 5, 2) := by decide +kernel
theorem d_hc_passValue_141 : decode c_hc_passValue 141 = .ok (.getstatic 349, 3) := by decide +kernel
theorem d_hc_passValue_144 : decode c_hc_passValue 144 = .ok (.getstatic 325, 3) := by decide +kernel
theorem d_hc_passValue_147 : decode c_hc_passValue 147 = .ok (.invokevirtual 352, 3) := by decide +kernel
theorem d_hc_passValue_150 : decode c_hc_passValue 150 = .ok (.aload 6, 2) := by decide +kernel
theorem d_hc_passValue_152 : decode c_hc_passValue 152 = .ok (.getstatic 356, 3) := by decide +kernel
theorem d_hc_passValue_155 : decode c_hc_passValue 155 = .ok (.getstatic 216, 3) := by decide +kernel
theorem d_hc_passValue_158 : decode c_hc_passValue 158 = .ok (.invokevirtual 352, 3) := by decide +kernel
theorem d_hc_passValue_161 : decode c_hc_passValue 161 = .ok (.iload 7, 2) := by decide +kernel
theorem d_hc_passValue_163 : decode c_hc_passValue 163 = .ok (.ireturn, 1) := by decide +kernel
theorem d_re_init_0 : decode c_re_init 0 = .ok (.aload_n 0, 1) := by decide +kernel
theorem d_re_init_1 : decode c_re_init 1 = .ok (.invokespecial 3, 3) := by decide +kernel
theorem d_re_init_4 : decode c_re_init 4 = .ok (.aload_n 0, 1) := by decide +kernel
theorem d_re_init_5 : decode c_re_init 5 = .ok (.lconst 0, 1) := by decide +kernel
theorem d_re_init_6 : decode c_re_init 6 = .ok (.putfield 9, 3) := by decide +kernel
theorem d_re_init_9 : decode c_re_init 9 = .ok (.aload_n 0, 1) := by decide +kernel
theorem d_re_init_10 : decode c_re_init 10 = .ok (.aload_n 1, 1) := by decide +kernel
theorem d_re_init_11 : decode c_re_init 11 = .ok (.putfield 15, 3) := by decide +kernel
theorem d_re_init_14 : decode c_re_init 14 = .ok (.aload_n 0, 1) := by decide +kernel
theorem d_re_init_15 : decode c_re_init 15 = .ok (.aload_n 2, 1) := by decide +kernel
theorem d_re_init_16 : decode c_re_init 16 = .ok (.putfield 19, 3) := by decide +kernel
theorem d_re_init_19 : decode c_re_init 19 = .ok (.aload_n 0, 1) := by decide +kernel
theorem d_re_init_20 : decode c_re_init 20 = .ok (.aload_n 3, 1) := by decide +kernel
theorem d_re_init_21 : decode c_re_init 21 = .ok (.putfield 23, 3) := by decide +kernel
theorem d_re_init_24 : decode c_re_init 24 = .ok (.return_, 1) := by decide +kernel
theorem d_wt_init_0 : decode c_wt_init 0 = .ok (.aload_n 0, 1) := by decide +kernel
theorem d_wt_init_1 : decode c_wt_init 1 = .ok (.invokespecial 3, 3) := by decide +kernel
theorem d_wt_init_4 : decode c_wt_init 4 = .ok (.aload_n 0, 1) := by decide +kernel
theorem d_wt_init_5 : decode c_wt_init 5 = .ok (.iconst 0, 1) := by decide +kernel
theorem d_wt_init_6 : decode c_wt_init 6 = .ok (.putfield 9, 3) := by decide +kernel
theorem d_wt_init_9 : decode c_wt_init 9 = .ok (.aload_n 0, 1) := by decide +kernel
theorem d_wt_init_10 : decode c_wt_init 10 = .ok (.aload_n 1, 1) := by decide +kernel
theorem d_wt_init_11 : decode c_wt_init 11 = .ok (.putfield 15, 3) := by decide +kernel
theorem d_wt_init_14 : decode c_wt_init 14 = .ok (.aload_n 0, 1) := by decide +kernel
theorem d_wt_init_15 : decode c_wt_init 15 = .ok (.aload_n 2, 1) := by decide +kernel
theorem d_wt_init_16 : decode c_wt_init 16 = .ok (.putfield 19, 3) := by decide +kernel
theorem d_wt_init_19 : decode c_wt_init 19 = .ok (.aload_n 0, 1) := by decide +kernel
theorem d_wt_init_20 : decode c_wt_init 20 = .ok (.aload_n 3, 1) := by decide +kernel
theorem d_wt_init_21 : decode c_wt_init 21 = .ok (.putfield 22, 3) := by decide +kernel
theorem d_wt_init_24 : decode c_wt_init 24 = .ok (.aload_n 0, 1) := by decide +kernel
theorem d_wt_init_25 : decode c_wt_init 25 = .ok (.aload 4, 2) := by decide +kernel
theorem d_wt_init_27 : decode c_wt_init 27 = .ok (.putfield 26, 3) := by decide +kernel
theorem d_wt_init_30 : decode c_wt_init 30 = .ok (.return_, 1) := by decide +kernel
