theorem d_mo_make_0 : decode c_mo_make 0 = .ok (.aload_n 0, 1) := by decide +kernel
theorem d_mo_make_1 : decode c_mo_make 1 = .ok (.aload_n 0, 1) := by decide +kernel
theorem d_mo_make_2 : decode c_mo_make 2 = .ok (.getfield 208, 3) := by decide +kernel
theorem d_mo_make_5 : decode c_mo_make 5 = .ok (.ifCond .ne 7, 3) := by decide +kernel
theorem d_mo_make_8 : decode c_mo_make 8 = .ok (.iconst 1, 1) := by decide +kernel
theorem d_mo_make_9 : decode c_mo_make 9 = .ok (.goto 39, 3) := by decide +kernel
theorem d_mo_make_12 : decode c_mo_make 12 = .ok (.iload_n 1, 1) := by decide +kernel
theorem d_mo_make_13 : decode c_mo_make 13 = .ok (.ifCond .lt 8, 3) := by decide +kernel
theorem d_mo_make_16 : decode c_mo_make 16 = .ok (.iload_n 1, 1) := by decide +kernel
theorem d_mo_make_17 : decode c_mo_make 17 = .ok (.iconst 3, 1) := by decide +kernel
theorem d_mo_make_18 : decode c_mo_make 18 = .ok (.if_icmp .le 7, 3) := by decide +kernel
theorem d_mo_make_21 : decode c_mo_make 21 = .ok (.iconst 2, 1) := by decide +kernel
theorem d_mo_make_22 : decode c_mo_make 22 = .ok (.goto 26, 3) := by decide +kernel
theorem d_mo_make_25 : decode c_mo_make 25 = .ok (.aload_n 0, 1) := by decide +kernel
theorem d_mo_make_26 : decode c_mo_make 26 = .ok (.aload_n 0, 1) := by decide +kernel
theorem d_mo_make_27 : decode c_mo_make 27 = .ok (.getfield 80, 3) := by decide +kernel
theorem d_mo_make_30 : decode c_mo_make 30 = .ok (.aload_n 0, 1) := by decide +kernel
theorem d_mo_make_31 : decode c_mo_make 31 = .ok (.getfield 208, 3) := by decide +kernel
theorem d_mo_make_34 : decode c_mo_make 34 = .ok (.iconst 1, 1) := by decide +kernel
theorem d_mo_make_35 : decode c_mo_make 35 = .ok (.isub, 1) := by decide +kernel
theorem d_mo_make_36 : decode c_mo_make 36 = .ok (.iaload, 1) := by decide +kernel
theorem d_mo_make_37 : decode c_mo_make 37 = .ok (.invokevirtual 215, 3) := by decide +kernel
theorem d_mo_make_40 : decode c_mo_make 40 = .ok (.ifCond .ne 7, 3) := by decide +kernel
theorem d_mo_make_43 : decode c_mo_make 43 = .ok (.iconst 3, 1) := by decide +kernel
theorem d_mo_make_44 : decode c_mo_make 44 = .ok (.goto 4, 3) := by decide +kernel
theorem d_mo_make_47 : decode c_mo_make 47 = .ok (.iconst 0, 1) := by decide +kernel
theorem d_mo_make_48 : decode c_mo_make 48 = .ok (.invokevirtual 157, 3) := by decide +kernel
theorem d_mo_make_51 : decode c_mo_make 51 = .ok (.ifCond .eq 5, 3) := by decide +kernel
theorem d_mo_make_54 : decode c_mo_make 54 = .ok (.iconst 0, 1) := by decide +kernel
theorem d_mo_make_55 : decode c_mo_make 55 = .ok (.ireturn, 1) := by decide +kernel
theorem d_mo_make_56 : decode c_mo_make 56 = .ok (.aload_n 0, 1) := by decide +kernel
theorem d_mo_make_57 : decode c_mo_make 57 = .ok (.aload_n 0, 1) := by decide +kernel
theorem d_mo_make_58 : decode c_mo_make 58 = .ok (.getfield 80, 3) := by decide +kernel
theorem d_mo_make_61 : decode c_mo_make 61 = .ok (.aload_n 0, 1) := by decide +kernel
theorem d_mo_make_62 : decode c_mo_make 62 = .ok (.getfield 208, 3) := by decide +kernel
theorem d_mo_make_65 : decode c_mo_make 65 = .ok (.iconst 1, 1) := by decide +kernel
theorem d_mo_make_66 : decode c_mo_make 66 = .ok (.isub, 1) := by decide +kernel
theorem d_mo_make_67 : decode c_mo_make 67 = .ok (.iaload, 1) := by decide +kernel
theorem d_mo_make_68 : decode c_mo_make 68 = .ok (.invokevirtual 215, 3) := by decide +kernel
theorem d_mo_make_71 : decode c_mo_make 71 = .ok (.istore_n 2, 1) := by decide +kernel
theorem d_mo_make_72 : decode c_mo_make 72 = .ok (.bipush 17, 2) := by decide +kernel
theorem d_mo_make_74 : decode c_mo_make 74 = .ok (.aload_n 0, 1) := by decide +kernel
theorem d_mo_make_75 : decode c_mo_make 75 = .ok (.getfield 80, 3) := by decide +kernel
theorem d_mo_make_78 : decode c_mo_make 78 = .ok (.aload_n 0, 1) := by decide +kernel
theorem d_mo_make_79 : decode c_mo_make 79 = .ok (.getfield 208, 3) := by decide +kernel
theorem d_mo_make_82 : decode c_mo_make 82 = .ok (.iconst 1, 1) := by decide +kernel
theorem d_mo_make_83 : decode c_mo_make 83 = .ok (.isub, 1) := by decide +kernel
theorem d_mo_make_84 : decode c_mo_make 84 = .ok (.iaload, 1) := by decide +kernel
theorem d_mo_make_85 : decode c_mo_make 85 = .ok (.imul, 1) := by decide +kernel
theorem d_mo_make_86 : decode c_mo_make 86 = .ok (.iload_n 2, 1) := by decide +kernel
theorem d_mo_make_87 : decode c_mo_make 87 = .ok (.iadd, 1) := by decide +kernel
theorem d_mo_make_88 : decode c_mo_make 88 = .ok (.istore_n 3, 1) := by decide +kernel
theorem d_mo_make_89 : decode c_mo_make 89 = .ok (.aload_n 0, 1) := by decide +kernel
theorem d_mo_make_90 : decode c_mo_make 90 = .ok (.getfield 46, 3) := by decide +kernel
theorem d_mo_make_93 : decode c_mo_make 93 = .ok (.iload_n 3, 1) := by decide +kernel
theorem d_mo_make_94 : decode c_mo_make 94 = .ok (.iconst 1, 1) := by decide +kernel
theorem d_mo_make_95 : decode c_mo_make 95 = .ok (.bastore, 1) := by decide +kernel
theorem d_mo_make_96 : decode c_mo_make 96 = .ok (.aload_n 0, 1) := by decide +kernel
theorem d_mo_make_97 : decode c_mo_make 97 = .ok (.getfield 53, 3) := by decide +kernel
theorem d_mo_make_100 : decode c_mo_make 100 = .ok (.iload_n 3, 1) := by decide +kernel
theorem d_mo_make_101 : decode c_mo_make 101 = .ok (.iconst 1, 1) := by decide +kernel
theorem d_mo_make_102 : decode c_mo_make 102 = .ok (.bastore, 1) := by decide +kernel
theorem d_mo_make_103 : decode c_mo_make 103 = .ok (.aload_n 0, 1) := by decide +kernel
theorem d_mo_make_104 : decode c_mo_make 104 = .ok (.getfield 50, 3) := by decide +kernel
theorem d_mo_make_107 : decode c_mo_make 107 = .ok (.iload_n 3, 1) := by decide +kernel
theorem d_mo_make_108 : decode c_mo_make 108 = .ok (.aload_n 0, 1) := by decide +kernel
theorem d_mo_make_109 : decode c_mo_make 109 = .ok (.getfield 218, 3) := by decide +kernel
theorem d_mo_make_112 : decode c_mo_make 112 = .ok (.iastore, 1) := by decide +kernel
theorem d_mo_make_113 : decode c_mo_make 113 = .ok (.aload_n 0, 1) := by decide +kernel
theorem d_mo_make_114 : decode c_mo_make 114 = .ok (.getfield 65, 3) := by decide +kernel
theorem d_mo_make_117 : decode c_mo_make 117 = .ok (.aload_n 0, 1) := by decide +kernel
theorem d_mo_make_118 : decode c_mo_make 118 = .ok (.getfield 218, 3) := by decide +kernel
theorem d_mo_make_121 : decode c_mo_make 121 = .ok (.iload_n 1, 1) := by decide +kernel
theorem d_mo_make_122 : decode c_mo_make 122 = .ok (.iastore, 1) := by decide +kernel
theorem d_mo_make_123 : decode c_mo_make 123 = .ok (.aload_n 0, 1) := by decide +kernel
theorem d_mo_make_124 : decode c_mo_make 124 = .ok (.dup, 1) := by decide +kernel
theorem d_mo_make_125 : decode c_mo_make 125 = .ok (.getfield 218, 3) := by decide +kernel
theorem d_mo_make_128 : decode c_mo_make 128 = .ok (.iconst 1, 1) := by decide +kernel
theorem d_mo_make_129 : decode c_mo_make 129 = .ok (.iadd, 1) := by decide +kernel
theorem d_mo_make_130 : decode c_mo_make 130 = .ok (.putfield 218, 3) := by decide +kernel
theorem d_mo_make_133 : decode c_mo_make 133 = .ok (.iload_n 2, 1) := by decide +kernel
theorem d_mo_make_134 : decode c_mo_make 134 = .ok (.ireturn, 1) := by decide +kernel
theorem d_mo_drop_0 : decode c_mo_drop 0 = .ok (.aload_n 0, 1) := by decide +kernel
theorem d_mo_drop_1 : decode c_mo_drop 1 = .ok (.getfield 208, 3) := by decide +kernel
theorem d_mo_drop_4 : decode c_mo_drop 4 = .ok (.ifCond .le 42, 3) := by decide +kernel
theorem d_mo_drop_7 : decode c_mo_drop 7 = .ok (.iload_n 1, 1) := by decide +kernel
theorem d_mo_drop_8 : decode c_mo_drop 8 = .ok (.iconst 1, 1) := by decide +kernel
theorem d_mo_drop_9 : decode c_mo_drop 9 = .ok (.if_icmp .lt 37, 3) := by decide +kernel
theorem d_mo_drop_12 : decode c_mo_drop 12 = .ok (.iload_n 1, 1) := by decide +kernel
theorem d_mo_drop_13 : decode c_mo_drop 13 = .ok (.bipush 16, 2) := by decide +kernel
theorem d_mo_drop_15 : decode c_mo_drop 15 = .ok (.if_icmp .gt 31, 3) := by decide +kernel
theorem d_mo_drop_18 : decode c_mo_drop 18 = .ok (.aload_n 0, 1) := by decide +kernel
theorem d_mo_drop_19 : decode c_mo_drop 19 = .ok (.getfield 46, 3) := by decide +kernel
theorem d_mo_drop_22 : decode c_mo_drop 22 = .ok (.bipush 17, 2) := by decide +kernel
theorem d_mo_drop_24 : decode c_mo_drop 24 = .ok (.aload_n 0, 1) := by decide +kernel
theorem d_mo_drop_25 : decode c_mo_drop 25 = .ok (.getfield 80, 3) := by decide +kernel
theorem d_mo_drop_28 : decode c_mo_drop 28 = .ok (.aload_n 0, 1) := by decide +kernel
theorem d_mo_drop_29 : decode c_mo_drop 29 = .ok (.getfield 208, 3) := by decide +kernel
theorem d_mo_drop_32 : decode c_mo_drop 32 = .ok (.iconst 1, 1) := by decide +kernel
theorem d_mo_drop_33 : decode c_mo_drop 33 = .ok (.isub, 1) := by decide +kernel
theorem d_mo_drop_34 : decode c_mo_drop 34 = .ok (.iaload, 1) := by decide +kernel
theorem d_mo_drop_35 : decode c_mo_drop 35 = .ok (.imul, 1) := by decide +kernel
theorem d_mo_drop_36 : decode c_mo_drop 36 = .ok (.iload_n 1, 1) := by decide +kernel
theorem d_mo_drop_37 : decode c_mo_drop 37 = .ok (.iadd, 1) := by decide +kernel
theorem d_mo_drop_38 : decode c_mo_drop 38 = .ok (.baload, 1) := by decide +kernel
theorem d_mo_drop_39 : decode c_mo_drop 39 = .ok (.ifCond .eq 7, 3) := by decide +kernel
theorem d_mo_drop_42 : decode c_mo_drop 42 = .ok (.iconst 1, 1) := by decide +kernel
theorem d_mo_drop_43 : decode c_mo_drop 43 = .ok (.goto 4, 3) := by decide +kernel
theorem d_mo_drop_46 : decode c_mo_drop 46 = .ok (.iconst 0, 1) := by decide +kernel
theorem d_mo_drop_47 : decode c_mo_drop 47 = .ok (.istore_n 2, 1) := by decide +kernel
theorem d_mo_drop_48 : decode c_mo_drop 48 = .ok (.aload_n 0, 1) := by decide +kernel
theorem d_mo_drop_49 : decode c_mo_drop 49 = .ok (.aload_n 0, 1) := by decide +kernel
theorem d_mo_drop_50 : decode c_mo_drop 50 = .ok (.getfield 208, 3) := by decide +kernel
theorem d_mo_drop_53 : decode c_mo_drop 53 = .ok (.ifCond .ne 7, 3) := by decide +kernel
theorem d_mo_drop_56 : decode c_mo_drop 56 = .ok (.iconst 1, 1) := by decide +kernel
theorem d_mo_drop_57 : decode c_mo_drop 57 = .ok (.goto 39, 3) := by decide +kernel
theorem d_mo_drop_60 : decode c_mo_drop 60 = .ok (.iload_n 2, 1) := by decide +kernel
theorem d_mo_drop_61 : decode c_mo_drop 61 = .ok (.ifCond .ne 7, 3) := by decide +kernel
theorem d_mo_drop_64 : decode c_mo_drop 64 = .ok (.iconst 2, 1) := by decide +kernel
theorem d_mo_drop_65 : decode c_mo_drop 65 = .ok (.goto 31, 3) := by decide +kernel
theorem d_mo_drop_68 : decode c_mo_drop 68 = .ok (.aload_n 0, 1) := by decide +kernel
theorem d_mo_drop_69 : decode c_mo_drop 69 = .ok (.bipush 17, 2) := by decide +kernel
theorem d_mo_drop_71 : decode c_mo_drop 71 = .ok (.aload_n 0, 1) := by decide +kernel
theorem d_mo_drop_72 : decode c_mo_drop 72 = .ok (.getfield 80, 3) := by decide +kernel
theorem d_mo_drop_75 : decode c_mo_drop 75 = .ok (.aload_n 0, 1) := by decide +kernel
theorem d_mo_drop_76 : decode c_mo_drop 76 = .ok (.getfield 208, 3) := by decide +kernel
theorem d_mo_drop_79 : decode c_mo_drop 79 = .ok (.iconst 1, 1) := by decide +kernel
theorem d_mo_drop_80 : decode c_mo_drop 80 = .ok (.isub, 1) := by decide +kernel
theorem d_mo_drop_81 : decode c_mo_drop 81 = .ok (.iaload, 1) := by decide +kernel
theorem d_mo_drop_82 : decode c_mo_drop 82 = .ok (.imul, 1) := by decide +kernel
theorem d_mo_drop_83 : decode c_mo_drop 83 = .ok (.iload_n 1, 1) := by decide +kernel
theorem d_mo_drop_84 : decode c_mo_drop 84 = .ok (.iadd, 1) := by decide +kernel
theorem d_mo_drop_85 : decode c_mo_drop 85 = .ok (.invokevirtual 221, 3) := by decide +kernel
theorem d_mo_drop_88 : decode c_mo_drop 88 = .ok (.ifCond .le 7, 3) := by decide +kernel
theorem d_mo_drop_91 : decode c_mo_drop 91 = .ok (.iconst 3, 1) := by decide +kernel
theorem d_mo_drop_92 : decode c_mo_drop 92 = .ok (.goto 4, 3) := by decide +kernel
theorem d_mo_drop_95 : decode c_mo_drop 95 = .ok (.iconst 0, 1) := by decide +kernel
theorem d_mo_drop_96 : decode c_mo_drop 96 = .ok (.invokevirtual 157, 3) := by decide +kernel
theorem d_mo_drop_99 : decode c_mo_drop 99 = .ok (.ifCond .eq 5, 3) := by decide +kernel
theorem d_mo_drop_102 : decode c_mo_drop 102 = .ok (.iconst 0, 1) := by decide +kernel
theorem d_mo_drop_103 : decode c_mo_drop 103 = .ok (.ireturn, 1) := by decide +kernel
theorem d_mo_drop_104 : decode c_mo_drop 104 = .ok (.bipush 17, 2) := by decide +kernel
theorem d_mo_drop_106 : decode c_mo_drop 106 = .ok (.aload_n 0, 1) := by decide +kernel
theorem d_mo_drop_107 : decode c_mo_drop 107 = .ok (.getfield 80, 3) := by decide +kernel
theorem d_mo_drop_110 : decode c_mo_drop 110 = .ok (.aload_n 0, 1) := by decide +kernel
theorem d_mo_drop_111 : decode c_mo_drop 111 = .ok (.getfield 208, 3) := by decide +kernel
theorem d_mo_drop_114 : decode c_mo_drop 114 = .ok (.iconst 1, 1) := by decide +kernel
theorem d_mo_drop_115 : decode c_mo_drop 115 = .ok (.isub, 1) := by decide +kernel
theorem d_mo_drop_116 : decode c_mo_drop 116 = .ok (.iaload, 1) := by decide +kernel
theorem d_mo_drop_117 : decode c_mo_drop 117 = .ok (.imul, 1) := by decide +kernel
theorem d_mo_drop_118 : decode c_mo_drop 118 = .ok (.iload_n 1, 1) := by decide +kernel
theorem d_mo_drop_119 : decode c_mo_drop 119 = .ok (.iadd, 1) := by decide +kernel
theorem d_mo_drop_120 : decode c_mo_drop 120 = .ok (.istore_n 3, 1) := by decide +kernel
theorem d_mo_drop_121 : decode c_mo_drop 121 = .ok (.aload_n 0, 1) := by decide +kernel
theorem d_mo_drop_122 : decode c_mo_drop 122 = .ok (.getfield 46, 3) := by decide +kernel
theorem d_mo_drop_125 : decode c_mo_drop 125 = .ok (.iload_n 3, 1) := by decide +kernel
theorem d_mo_drop_126 : decode c_mo_drop 126 = .ok (.iconst 0, 1) := by decide +kernel
theorem d_mo_drop_127 : decode c_mo_drop 127 = .ok (.bastore, 1) := by decide +kernel
theorem d_mo_drop_128 : decode c_mo_drop 128 = .ok (.aload_n 0, 1) := by decide +kernel
theorem d_mo_drop_129 : decode c_mo_drop 129 = .ok (.getfield 53, 3) := by decide +kernel
theorem d_mo_drop_132 : decode c_mo_drop 132 = .ok (.iload_n 3, 1) := by decide +kernel
theorem d_mo_drop_133 : decode c_mo_drop 133 = .ok (.baload, 1) := by decide +kernel
theorem d_mo_drop_134 : decode c_mo_drop 134 = .ok (.ifCond .eq 15, 3) := by decide +kernel
theorem d_mo_drop_137 : decode c_mo_drop 137 = .ok (.aload_n 0, 1) := by decide +kernel
theorem d_mo_drop_138 : decode c_mo_drop 138 = .ok (.getfield 68, 3) := by decide +kernel
theorem d_mo_drop_141 : decode c_mo_drop 141 = .ok (.aload_n 0, 1) := by decide +kernel
theorem d_mo_drop_142 : decode c_mo_drop 142 = .ok (.getfield 50, 3) := by decide +kernel
theorem d_mo_drop_145 : decode c_mo_drop 145 = .ok (.iload_n 3, 1) := by decide +kernel
theorem d_mo_drop_146 : decode c_mo_drop 146 = .ok (.iaload, 1) := by decide +kernel
theorem d_mo_drop_147 : decode c_mo_drop 147 = .ok (.iconst 1, 1) := by decide +kernel
theorem d_mo_drop_148 : decode c_mo_drop 148 = .ok (.bastore, 1) := by decide +kernel
theorem d_mo_drop_149 : decode c_mo_drop 149 = .ok (.aload_n 0, 1) := by decide +kernel
theorem d_mo_drop_150 : decode c_mo_drop 150 = .ok (.getfield 53, 3) := by decide +kernel
theorem d_mo_drop_153 : decode c_mo_drop 153 = .ok (.iload_n 3, 1) := by decide +kernel
theorem d_mo_drop_154 : decode c_mo_drop 154 = .ok (.baload, 1) := by decide +kernel
theorem d_mo_drop_155 : decode c_mo_drop 155 = .ok (.ireturn, 1) := by decide +kernel
theorem d_mo_handle_0 : decode c_mo_handle 0 = .ok (.aload_n 0, 1) := by decide +kernel
theorem d_mo_handle_1 : decode c_mo_handle 1 = .ok (.aload_n 0, 1) := by decide +kernel
theorem d_mo_handle_2 : decode c_mo_handle 2 = .ok (.iload_n 1, 1) := by decide +kernel
theorem d_mo_handle_3 : decode c_mo_handle 3 = .ok (.invokevirtual 197, 3) := by decide +kernel
theorem d_mo_handle_6 : decode c_mo_handle 6 = .ok (.ifCond .eq 23, 3) := by decide +kernel
theorem d_mo_handle_9 : decode c_mo_handle 9 = .ok (.iload_n 2, 1) := by decide +kernel
theorem d_mo_handle_10 : decode c_mo_handle 10 = .ok (.iconst 1, 1) := by decide +kernel
theorem d_mo_handle_11 : decode c_mo_handle 11 = .ok (.if_icmp .lt 18, 3) := by decide +kernel
theorem d_mo_handle_14 : decode c_mo_handle 14 = .ok (.iload_n 2, 1) := by decide +kernel
theorem d_mo_handle_15 : decode c_mo_handle 15 = .ok (.bipush 16, 2) := by decide +kernel
theorem d_mo_handle_17 : decode c_mo_handle 17 = .ok (.if_icmp .gt 12, 3) := by decide +kernel
theorem d_mo_handle_20 : decode c_mo_handle 20 = .ok (.iload_n 3, 1) := by decide +kernel
theorem d_mo_handle_21 : decode c_mo_handle 21 = .ok (.ifCond .lt 8, 3) := by decide +kernel
theorem d_mo_handle_24 : decode c_mo_handle 24 = .ok (.iload_n 3, 1) := by decide +kernel
theorem d_mo_handle_25 : decode c_mo_handle 25 = .ok (.iconst 3, 1) := by decide +kernel
theorem d_mo_handle_26 : decode c_mo_handle 26 = .ok (.if_icmp .le 7, 3) := by decide +kernel
theorem d_mo_handle_29 : decode c_mo_handle 29 = .ok (.iconst 1, 1) := by decide +kernel
theorem d_mo_handle_30 : decode c_mo_handle 30 = .ok (.goto 4, 3) := by decide +kernel
theorem d_mo_handle_33 : decode c_mo_handle 33 = .ok (.iconst 0, 1) := by decide +kernel
theorem d_mo_handle_34 : decode c_mo_handle 34 = .ok (.invokevirtual 157, 3) := by decide +kernel
theorem d_mo_handle_37 : decode c_mo_handle 37 = .ok (.ifCond .eq 5, 3) := by decide +kernel
theorem d_mo_handle_40 : decode c_mo_handle 40 = .ok (.iconst 0, 1) := by decide +kernel
theorem d_mo_handle_41 : decode c_mo_handle 41 = .ok (.ireturn, 1) := by decide +kernel
theorem d_mo_handle_42 : decode c_mo_handle 42 = .ok (.bipush 17, 2) := by decide +kernel
theorem d_mo_handle_44 : decode c_mo_handle 44 = .ok (.iload_n 1, 1) := by decide +kernel
theorem d_mo_handle_45 : decode c_mo_handle 45 = .ok (.imul, 1) := by decide +kernel
theorem d_mo_handle_46 : decode c_mo_handle 46 = .ok (.iload_n 2, 1) := by decide +kernel
theorem d_mo_handle_47 : decode c_mo_handle 47 = .ok (.iadd, 1) := by decide +kernel
theorem d_mo_handle_48 : decode c_mo_handle 48 = .ok (.istore 4, 2) := by decide +kernel
theorem d_mo_handle_50 : decode c_mo_handle 50 = .ok (.aload_n 0, 1) := by decide +kernel
theorem d_mo_handle_51 : decode c_mo_handle 51 = .ok (.getfield 46, 3) := by decide +kernel
theorem d_mo_handle_54 : decode c_mo_handle 54 = .ok (.iload 4, 2) := by decide +kernel
theorem d_mo_handle_56 : decode c_mo_handle 56 = .ok (.baload, 1) := by decide +kernel
theorem d_mo_handle_57 : decode c_mo_handle 57 = .ok (.ifCond .ne 5, 3) := by decide +kernel
theorem d_mo_handle_60 : decode c_mo_handle 60 = .ok (.iconst (-1), 1) := by decide +kernel
theorem d_mo_handle_61 : decode c_mo_handle 61 = .ok (.ireturn, 1) := by decide +kernel
theorem d_mo_handle_62 : decode c_mo_handle 62 = .ok (.iload_n 3, 1) := by decide +kernel
theorem d_mo_handle_63 : decode c_mo_handle 63 = .ok (.ifCond .ne 13, 3) := by decide +kernel
theorem d_mo_handle_66 : decode c_mo_handle 66 = .ok (.aload_n 0, 1) := by decide +kernel
theorem d_mo_handle_67 : decode c_mo_handle 67 = .ok (.getfield 50, 3) := by decide +kernel
theorem d_mo_handle_70 : decode c_mo_handle 70 = .ok (.iload 4, 2) := by decide +kernel
theorem d_mo_handle_72 : decode c_mo_handle 72 = .ok (.iaload, 1) := by decide +kernel
theorem d_mo_handle_73 : decode c_mo_handle 73 = .ok (.goto 52, 3) := by decide +kernel
theorem d_mo_handle_76 : decode c_mo_handle 76 = .ok (.iload_n 3, 1) := by decide +kernel
theorem d_mo_handle_77 : decode c_mo_handle 77 = .ok (.iconst 1, 1) := by decide +kernel
theorem d_mo_handle_78 : decode c_mo_handle 78 = .ok (.if_icmp .ne 18, 3) := by decide +kernel
theorem d_mo_handle_81 : decode c_mo_handle 81 = .ok (.aload_n 0, 1) := by decide +kernel
theorem d_mo_handle_82 : decode c_mo_handle 82 = .ok (.getfield 65, 3) := by decide +kernel
theorem d_mo_handle_85 : decode c_mo_handle 85 = .ok (.aload_n 0, 1) := by decide +kernel
theorem d_mo_handle_86 : decode c_mo_handle 86 = .ok (.getfield 50, 3) := by decide +kernel
theorem d_mo_handle_89 : decode c_mo_handle 89 = .ok (.iload 4, 2) := by decide +kernel
theorem d_mo_handle_91 : decode c_mo_handle 91 = .ok (.iaload, 1) := by decide +kernel
theorem d_mo_handle_92 : decode c_mo_handle 92 = .ok (.iaload, 1) := by decide +kernel
theorem d_mo_handle_93 : decode c_mo_handle 93 = .ok (.goto 32, 3) := by decide +kernel
theorem d_mo_handle_96 : decode c_mo_handle 96 = .ok (.iload_n 3, 1) := by decide +kernel
theorem d_mo_handle_97 : decode c_mo_handle 97 = .ok (.iconst 2, 1) := by decide +kernel
theorem d_mo_handle_98 : decode c_mo_handle 98 = .ok (.if_icmp .ne 21, 3) := by decide +kernel
theorem d_mo_handle_101 : decode c_mo_handle 101 = .ok (.aload_n 0, 1) := by decide +kernel
theorem d_mo_handle_102 : decode c_mo_handle 102 = .ok (.getfield 53, 3) := by decide +kernel
theorem d_mo_handle_105 : decode c_mo_handle 105 = .ok (.iload 4, 2) := by decide +kernel
theorem d_mo_handle_107 : decode c_mo_handle 107 = .ok (.baload, 1) := by decide +kernel
theorem d_mo_handle_108 : decode c_mo_handle 108 = .ok (.ifCond .eq 7, 3) := by decide +kernel
theorem d_mo_handle_111 : decode c_mo_handle 111 = .ok (.iconst 1, 1) := by decide +kernel
theorem d_mo_handle_112 : decode c_mo_handle 112 = .ok (.goto 13, 3) := by decide +kernel
theorem d_mo_handle_115 : decode c_mo_handle 115 = .ok (.iconst 0, 1) := by decide +kernel
theorem d_mo_handle_116 : decode c_mo_handle 116 = .ok (.goto 9, 3) := by decide +kernel
theorem d_mo_handle_119 : decode c_mo_handle 119 = .ok (.aload_n 0, 1) := by decide +kernel
theorem d_mo_handle_120 : decode c_mo_handle 120 = .ok (.iload 4, 2) := by decide +kernel
theorem d_mo_handle_122 : decode c_mo_handle 122 = .ok (.invokevirtual 221, 3) := by decide +kernel
theorem d_mo_handle_125 : decode c_mo_handle 125 = .ok (.ireturn, 1) := by decide +kernel
theorem d_mo_state_0 : decode c_mo_state 0 = .ok (.aload_n 0, 1) := by decide +kernel
theorem d_mo_state_1 : decode c_mo_state 1 = .ok (.aload_n 0, 1) := by decide +kernel
theorem d_mo_state_2 : decode c_mo_state 2 = .ok (.iload_n 1, 1) := by decide +kernel
theorem d_mo_state_3 : decode c_mo_state 3 = .ok (.invokevirtual 197, 3) := by decide +kernel
theorem d_mo_state_6 : decode c_mo_state 6 = .ok (.ifCond .eq 12, 3) := by decide +kernel
theorem d_mo_state_9 : decode c_mo_state 9 = .ok (.iload_n 2, 1) := by decide +kernel
theorem d_mo_state_10 : decode c_mo_state 10 = .ok (.ifCond .lt 8, 3) := by decide +kernel
theorem d_mo_state_13 : decode c_mo_state 13 = .ok (.iload_n 2, 1) := by decide +kernel
theorem d_mo_state_14 : decode c_mo_state 14 = .ok (.iconst 2, 1) := by decide +kernel
theorem d_mo_state_15 : decode c_mo_state 15 = .ok (.if_icmp .le 7, 3) := by decide +kernel
theorem d_mo_state_18 : decode c_mo_state 18 = .ok (.iconst 1, 1) := by decide +kernel
theorem d_mo_state_19 : decode c_mo_state 19 = .ok (.goto 4, 3) := by decide +kernel
theorem d_mo_state_22 : decode c_mo_state 22 = .ok (.iconst 0, 1) := by decide +kernel
theorem d_mo_state_23 : decode c_mo_state 23 = .ok (.invokevirtual 157, 3) := by decide +kernel
theorem d_mo_state_26 : decode c_mo_state 26 = .ok (.ifCond .eq 5, 3) := by decide +kernel
theorem d_mo_state_29 : decode c_mo_state 29 = .ok (.iconst 0, 1) := by decide +kernel
theorem d_mo_state_30 : decode c_mo_state 30 = .ok (.ireturn, 1) := by decide +kernel
theorem d_mo_state_31 : decode c_mo_state 31 = .ok (.iload_n 2, 1) := by decide +kernel
theorem d_mo_state_32 : decode c_mo_state 32 = .ok (.ifCond .ne 12, 3) := by decide +kernel
theorem d_mo_state_35 : decode c_mo_state 35 = .ok (.aload_n 0, 1) := by decide +kernel
theorem d_mo_state_36 : decode c_mo_state 36 = .ok (.getfield 43, 3) := by decide +kernel
theorem d_mo_state_39 : decode c_mo_state 39 = .ok (.iload_n 1, 1) := by decide +kernel
theorem d_mo_state_40 : decode c_mo_state 40 = .ok (.iaload, 1) := by decide +kernel
theorem d_mo_state_41 : decode c_mo_state 41 = .ok (.goto 22, 3) := by decide +kernel
theorem d_mo_state_44 : decode c_mo_state 44 = .ok (.iload_n 2, 1) := by decide +kernel
theorem d_mo_state_45 : decode c_mo_state 45 = .ok (.iconst 1, 1) := by decide +kernel
theorem d_mo_state_46 : decode c_mo_state 46 = .ok (.if_icmp .ne 12, 3) := by decide +kernel
theorem d_mo_state_49 : decode c_mo_state 49 = .ok (.aload_n 0, 1) := by decide +kernel
theorem d_mo_state_50 : decode c_mo_state 50 = .ok (.getfield 40, 3) := by decide +kernel
theorem d_mo_state_53 : decode c_mo_state 53 = .ok (.iload_n 1, 1) := by decide +kernel
theorem d_mo_state_54 : decode c_mo_state 54 = .ok (.iaload, 1) := by decide +kernel
theorem d_mo_state_55 : decode c_mo_state 55 = .ok (.goto 8, 3) := by decide +kernel
theorem d_mo_state_58 : decode c_mo_state 58 = .ok (.aload_n 0, 1) := by decide +kernel
theorem d_mo_state_59 : decode c_mo_state 59 = .ok (.iload_n 1, 1) := by decide +kernel
theorem d_mo_state_60 : decode c_mo_state 60 = .ok (.invokevirtual 291, 3) := by decide +kernel
theorem d_mo_state_63 : decode c_mo_state 63 = .ok (.ireturn, 1) := by decide +kernel
theorem d_mo_close_0 : decode c_mo_close 0 = .ok (.aload_n 0, 1) := by decide +kernel
theorem d_mo_close_1 : decode c_mo_close 1 = .ok (.aload_n 0, 1) := by decide +kernel
theorem d_mo_close_2 : decode c_mo_close 2 = .ok (.iload_n 1, 1) := by decide +kernel
theorem d_mo_close_3 : decode c_mo_close 3 = .ok (.invokevirtual 197, 3) := by decide +kernel
theorem d_mo_close_6 : decode c_mo_close 6 = .ok (.ifCond .ne 7, 3) := by decide +kernel
theorem d_mo_close_9 : decode c_mo_close 9 = .ok (.iconst 1, 1) := by decide +kernel
theorem d_mo_close_10 : decode c_mo_close 10 = .ok (.goto 28, 3) := by decide +kernel
theorem d_mo_close_13 : decode c_mo_close 13 = .ok (.aload_n 0, 1) := by decide +kernel
theorem d_mo_close_14 : decode c_mo_close 14 = .ok (.getfield 43, 3) := by decide +kernel
theorem d_mo_close_17 : decode c_mo_close 17 = .ok (.iload_n 1, 1) := by decide +kernel
theorem d_mo_close_18 : decode c_mo_close 18 = .ok (.iaload, 1) := by decide +kernel
theorem d_mo_close_19 : decode c_mo_close 19 = .ok (.iconst 1, 1) := by decide +kernel
theorem d_mo_close_20 : decode c_mo_close 20 = .ok (.if_icmp .eq 13, 3) := by decide +kernel
theorem d_mo_close_23 : decode c_mo_close 23 = .ok (.aload_n 0, 1) := by decide +kernel
theorem d_mo_close_24 : decode c_mo_close 24 = .ok (.getfield 43, 3) := by decide +kernel
theorem d_mo_close_27 : decode c_mo_close 27 = .ok (.iload_n 1, 1) := by decide +kernel
theorem d_mo_close_28 : decode c_mo_close 28 = .ok (.iaload, 1) := by decide +kernel
theorem d_mo_close_29 : decode c_mo_close 29 = .ok (.iconst 3, 1) := by decide +kernel
theorem d_mo_close_30 : decode c_mo_close 30 = .ok (.if_icmp .ne 7, 3) := by decide +kernel
theorem d_mo_close_33 : decode c_mo_close 33 = .ok (.iconst 2, 1) := by decide +kernel
theorem d_mo_close_34 : decode c_mo_close 34 = .ok (.goto 4, 3) := by decide +kernel
theorem d_mo_close_37 : decode c_mo_close 37 = .ok (.iconst 0, 1) := by decide +kernel
theorem d_mo_close_38 : decode c_mo_close 38 = .ok (.invokevirtual 157, 3) := by decide +kernel
theorem d_mo_close_41 : decode c_mo_close 41 = .ok (.ifCond .eq 5, 3) := by decide +kernel
theorem d_mo_close_44 : decode c_mo_close 44 = .ok (.iconst 0, 1) := by decide +kernel
theorem d_mo_close_45 : decode c_mo_close 45 = .ok (.ireturn, 1) := by decide +kernel
theorem d_mo_close_46 : decode c_mo_close 46 = .ok (.iconst 0, 1) := by decide +kernel
theorem d_mo_close_47 : decode c_mo_close 47 = .ok (.istore_n 2, 1) := by decide +kernel
theorem d_mo_close_48 : decode c_mo_close 48 = .ok (.iconst 1, 1) := by decide +kernel
theorem d_mo_close_49 : decode c_mo_close 49 = .ok (.istore_n 3, 1) := by decide +kernel
theorem d_mo_close_50 : decode c_mo_close 50 = .ok (.iload_n 3, 1) := by decide +kernel
theorem d_mo_close_51 : decode c_mo_close 51 = .ok (.bipush 16, 2) := by decide +kernel
theorem d_mo_close_53 : decode c_mo_close 53 = .ok (.if_icmp .gt 61, 3) := by decide +kernel
theorem d_mo_close_56 : decode c_mo_close 56 = .ok (.bipush 17, 2) := by decide +kernel
theorem d_mo_close_58 : decode c_mo_close 58 = .ok (.iload_n 1, 1) := by decide +kernel
theorem d_mo_close_59 : decode c_mo_close 59 = .ok (.imul, 1) := by decide +kernel
theorem d_mo_close_60 : decode c_mo_close 60 = .ok (.iload_n 3, 1) := by decide +kernel
theorem d_mo_close_61 : decode c_mo_close 61 = .ok (.iadd, 1) := by decide +kernel
theorem d_mo_close_62 : decode c_mo_close 62 = .ok (.istore 4, 2) := by decide +kernel
theorem d_mo_close_64 : decode c_mo_close 64 = .ok (.aload_n 0, 1) := by decide +kernel
theorem d_mo_close_65 : decode c_mo_close 65 = .ok (.getfield 46, 3) := by decide +kernel
theorem d_mo_close_68 : decode c_mo_close 68 = .ok (.iload 4, 2) := by decide +kernel
theorem d_mo_close_70 : decode c_mo_close 70 = .ok (.baload, 1) := by decide +kernel
theorem d_mo_close_71 : decode c_mo_close 71 = .ok (.ifCond .eq 29, 3) := by decide +kernel
theorem d_mo_close_74 : decode c_mo_close 74 = .ok (.aload_n 0, 1) := by decide +kernel
theorem d_mo_close_75 : decode c_mo_close 75 = .ok (.getfield 53, 3) := by decide +kernel
theorem d_mo_close_78 : decode c_mo_close 78 = .ok (.iload 4, 2) := by decide +kernel
theorem d_mo_close_80 : decode c_mo_close 80 = .ok (.baload, 1) := by decide +kernel
theorem d_mo_close_81 : decode c_mo_close 81 = .ok (.ifCond .eq 19, 3) := by decide +kernel
theorem d_mo_close_84 : decode c_mo_close 84 = .ok (.aload_n 0, 1) := by decide +kernel
theorem d_mo_close_85 : decode c_mo_close 85 = .ok (.getfield 68, 3) := by decide +kernel
theorem d_mo_close_88 : decode c_mo_close 88 = .ok (.aload_n 0, 1) := by decide +kernel
theorem d_mo_close_89 : decode c_mo_close 89 = .ok (.getfield 50, 3) := by decide +kernel
theorem d_mo_close_92 : decode c_mo_close 92 = .ok (.iload 4, 2) := by decide +kernel
theorem d_mo_close_94 : decode c_mo_close 94 = .ok (.iaload, 1) := by decide +kernel
theorem d_mo_close_95 : decode c_mo_close 95 = .ok (.iconst 1, 1) := by decide +kernel
theorem d_mo_close_96 : decode c_mo_close 96 = .ok (.bastore, 1) := by decide +kernel
theorem d_mo_close_97 : decode c_mo_close 97 = .ok (.iinc 2 1, 3) := by decide +kernel
theorem d_mo_close_100 : decode c_mo_close 100 = .ok (.aload_n 0, 1) := by decide +kernel
theorem d_mo_close_101 : decode c_mo_close 101 = .ok (.getfield 46, 3) := by decide +kernel
theorem d_mo_close_104 : decode c_mo_close 104 = .ok (.iload 4, 2) := by decide +kernel
theorem d_mo_close_106 : decode c_mo_close 106 = .ok (.iconst 0, 1) := by decide +kernel
theorem d_mo_close_107 : decode c_mo_close 107 = .ok (.bastore, 1) := by decide +kernel
theorem d_mo_close_108 : decode c_mo_close 108 = .ok (.iinc 3 1, 3) := by decide +kernel
theorem d_mo_close_111 : decode c_mo_close 111 = .ok (.goto (-61), 3) := by decide +kernel
theorem d_mo_close_114 : decode c_mo_close 114 = .ok (.aload_n 0, 1) := by decide +kernel
theorem d_mo_close_115 : decode c_mo_close 115 = .ok (.getfield 43, 3) := by decide +kernel
theorem d_mo_close_118 : decode c_mo_close 118 = .ok (.iload_n 1, 1) := by decide +kernel
theorem d_mo_close_119 : decode c_mo_close 119 = .ok (.iconst 3, 1) := by decide +kernel
theorem d_mo_close_120 : decode c_mo_close 120 = .ok (.iastore, 1) := by decide +kernel
theorem d_mo_close_121 : decode c_mo_close 121 = .ok (.iload_n 2, 1) := by decide +kernel
theorem d_mo_close_122 : decode c_mo_close 122 = .ok (.ireturn, 1) := by decide +kernel
theorem d_mo_resources_0 : decode c_mo_resources 0 = .ok (.aload_n 0, 1) := by decide +kernel
theorem d_mo_resources_1 : decode c_mo_resources 1 = .ok (.iload_n 1, 1) := by decide +kernel
theorem d_mo_resources_2 : decode c_mo_resources 2 = .ok (.ifCond .lt 8, 3) := by decide +kernel
theorem d_mo_resources_5 : decode c_mo_resources 5 = .ok (.iload_n 1, 1) := by decide +kernel
theorem d_mo_resources_6 : decode c_mo_resources 6 = .ok (.iconst 3, 1) := by decide +kernel
theorem d_mo_resources_7 : decode c_mo_resources 7 = .ok (.if_icmp .le 7, 3) := by decide +kernel
theorem d_mo_resources_10 : decode c_mo_resources 10 = .ok (.iconst 1, 1) := by decide +kernel
theorem d_mo_resources_11 : decode c_mo_resources 11 = .ok (.goto 4, 3) := by decide +kernel
theorem d_mo_resources_14 : decode c_mo_resources 14 = .ok (.iconst 0, 1) := by decide +kernel
theorem d_mo_resources_15 : decode c_mo_resources 15 = .ok (.invokevirtual 157, 3) := by decide +kernel
theorem d_mo_resources_18 : decode c_mo_resources 18 = .ok (.ifCond .eq 5, 3) := by decide +kernel
theorem d_mo_resources_21 : decode c_mo_resources 21 = .ok (.iconst 0, 1) := by decide +kernel
theorem d_mo_resources_22 : decode c_mo_resources 22 = .ok (.ireturn, 1) := by decide +kernel
theorem d_mo_resources_23 : decode c_mo_resources 23 = .ok (.iconst 0, 1) := by decide +kernel
theorem d_mo_resources_24 : decode c_mo_resources 24 = .ok (.istore_n 3, 1) := by decide +kernel
theorem d_mo_resources_25 : decode c_mo_resources 25 = .ok (.iconst 0, 1) := by decide +kernel
theorem d_mo_resources_26 : decode c_mo_resources 26 = .ok (.istore 4, 2) := by decide +kernel
theorem d_mo_resources_28 : decode c_mo_resources 28 = .ok (.iload 4, 2) := by decide +kernel
theorem d_mo_resources_30 : decode c_mo_resources 30 = .ok (.aload_n 0, 1) := by decide +kernel
theorem d_mo_resources_31 : decode c_mo_resources 31 = .ok (.getfield 218, 3) := by decide +kernel
theorem d_mo_resources_34 : decode c_mo_resources 34 = .ok (.if_icmp .ge 39, 3) := by decide +kernel
theorem d_mo_resources_37 : decode c_mo_resources 37 = .ok (.aload_n 0, 1) := by decide +kernel
theorem d_mo_resources_38 : decode c_mo_resources 38 = .ok (.getfield 65, 3) := by decide +kernel
theorem d_mo_resources_41 : decode c_mo_resources 41 = .ok (.iload 4, 2) := by decide +kernel
theorem d_mo_resources_43 : decode c_mo_resources 43 = .ok (.iaload, 1) := by decide +kernel
theorem d_mo_resources_44 : decode c_mo_resources 44 = .ok (.iload_n 1, 1) := by decide +kernel
theorem d_mo_resources_45 : decode c_mo_resources 45 = .ok (.if_icmp .ne 20, 3) := by decide +kernel
theorem d_mo_resources_48 : decode c_mo_resources 48 = .ok (.aload_n 0, 1) := by decide +kernel
theorem d_mo_resources_49 : decode c_mo_resources 49 = .ok (.getfield 68, 3) := by decide +kernel
theorem d_mo_resources_52 : decode c_mo_resources 52 = .ok (.iload 4, 2) := by decide +kernel
theorem d_mo_resources_54 : decode c_mo_resources 54 = .ok (.baload, 1) := by decide +kernel
theorem d_mo_resources_55 : decode c_mo_resources 55 = .ok (.iload_n 2, 1) := by decide +kernel
theorem d_mo_resources_56 : decode c_mo_resources 56 = .ok (.if_icmp .ne 9, 3) := by decide +kernel
theorem d_mo_resources_59 : decode c_mo_resources 59 = .ok (.iload_n 3, 1) := by decide +kernel
theorem d_mo_resources_60 : decode c_mo_resources 60 = .ok (.iconst 1, 1) := by decide +kernel
theorem d_mo_resources_61 : decode c_mo_resources 61 = .ok (.iadd, 1) := by decide +kernel
theorem d_mo_resources_62 : decode c_mo_resources 62 = .ok (.goto 4, 3) := by decide +kernel
theorem d_mo_resources_65 : decode c_mo_resources 65 = .ok (.iload_n 3, 1) := by decide +kernel
theorem d_mo_resources_66 : decode c_mo_resources 66 = .ok (.istore_n 3, 1) := by decide +kernel
theorem d_mo_resources_67 : decode c_mo_resources 67 = .ok (.iinc 4 1, 3) := by decide +kernel
theorem d_mo_resources_70 : decode c_mo_resources 70 = .ok (.goto (-42), 3) := by decide +kernel
theorem d_mo_resources_73 : decode c_mo_resources 73 = .ok (.iload_n 3, 1) := by decide +kernel
theorem d_mo_resources_74 : decode c_mo_resources 74 = .ok (.ireturn, 1) := by decide +kernel
theorem d_mo_trapped_0 : decode c_mo_trapped 0 = .ok (.iconst 0, 1) := by decide +kernel
theorem d_mo_trapped_1 : decode c_mo_trapped 1 = .ok (.istore 4, 2) := by decide +kernel
theorem d_mo_trapped_3 : decode c_mo_trapped 3 = .ok (.iload 4, 2) := by decide +kernel
theorem d_mo_trapped_5 : decode c_mo_trapped 5 = .ok (.aload_n 0, 1) := by decide +kernel
theorem d_mo_trapped_6 : decode c_mo_trapped 6 = .ok (.getfield 260, 3) := by decide +kernel
theorem d_mo_trapped_9 : decode c_mo_trapped 9 = .ok (.if_icmp .ge 22, 3) := by decide +kernel
theorem d_mo_trapped_12 : decode c_mo_trapped 12 = .ok (.aload_n 0, 1) := by decide +kernel
theorem d_mo_trapped_13 : decode c_mo_trapped 13 = .ok (.getfield 46, 3) := by decide +kernel
theorem d_mo_trapped_16 : decode c_mo_trapped 16 = .ok (.aload_n 0, 1) := by decide +kernel
theorem d_mo_trapped_17 : decode c_mo_trapped 17 = .ok (.getfield 135, 3) := by decide +kernel
theorem d_mo_trapped_20 : decode c_mo_trapped 20 = .ok (.iload 4, 2) := by decide +kernel
theorem d_mo_trapped_22 : decode c_mo_trapped 22 = .ok (.iaload, 1) := by decide +kernel
theorem d_mo_trapped_23 : decode c_mo_trapped 23 = .ok (.iconst 0, 1) := by decide +kernel
theorem d_mo_trapped_24 : decode c_mo_trapped 24 = .ok (.bastore, 1) := by decide +kernel
theorem d_mo_trapped_25 : decode c_mo_trapped 25 = .ok (.iinc 4 1, 3) := by decide +kernel
theorem d_mo_trapped_28 : decode c_mo_trapped 28 = .ok (.goto (-25), 3) := by decide +kernel
theorem d_mo_trapped_31 : decode c_mo_trapped 31 = .ok (.aload_n 0, 1) := by decide +kernel
theorem d_mo_trapped_32 : decode c_mo_trapped 32 = .ok (.iconst 0, 1) := by decide +kernel
theorem d_mo_trapped_33 : decode c_mo_trapped 33 = .ok (.putfield 260, 3) := by decide +kernel
theorem d_mo_trapped_36 : decode c_mo_trapped 36 = .ok (.iconst 0, 1) := by decide +kernel
theorem d_mo_trapped_37 : decode c_mo_trapped 37 = .ok (.istore 4, 2) := by decide +kernel
theorem d_mo_trapped_39 : decode c_mo_trapped 39 = .ok (.iload 4, 2) := by decide +kernel
theorem d_mo_trapped_41 : decode c_mo_trapped 41 = .ok (.bipush 102, 2) := by decide +kernel
theorem d_mo_trapped_43 : decode c_mo_trapped 43 = .ok (.if_icmp .ge 41, 3) := by decide +kernel
theorem d_mo_trapped_46 : decode c_mo_trapped 46 = .ok (.aload_n 0, 1) := by decide +kernel
theorem d_mo_trapped_47 : decode c_mo_trapped 47 = .ok (.getfield 46, 3) := by decide +kernel
theorem d_mo_trapped_50 : decode c_mo_trapped 50 = .ok (.iload 4, 2) := by decide +kernel
theorem d_mo_trapped_52 : decode c_mo_trapped 52 = .ok (.aload_n 0, 1) := by decide +kernel
theorem d_mo_trapped_53 : decode c_mo_trapped 53 = .ok (.getfield 46, 3) := by decide +kernel
theorem d_mo_trapped_56 : decode c_mo_trapped 56 = .ok (.iload 4, 2) := by decide +kernel
theorem d_mo_trapped_58 : decode c_mo_trapped 58 = .ok (.baload, 1) := by decide +kernel
theorem d_mo_trapped_59 : decode c_mo_trapped 59 = .ok (.ifCond .eq 17, 3) := by decide +kernel
theorem d_mo_trapped_62 : decode c_mo_trapped 62 = .ok (.aload_n 0, 1) := by decide +kernel
theorem d_mo_trapped_63 : decode c_mo_trapped 63 = .ok (.getfield 53, 3) := by decide +kernel
theorem d_mo_trapped_66 : decode c_mo_trapped 66 = .ok (.iload 4, 2) := by decide +kernel
theorem d_mo_trapped_68 : decode c_mo_trapped 68 = .ok (.baload, 1) := by decide +kernel
theorem d_mo_trapped_69 : decode c_mo_trapped 69 = .ok (.ifCond .eq 7, 3) := by decide +kernel
theorem d_mo_trapped_72 : decode c_mo_trapped 72 = .ok (.iconst 1, 1) := by decide +kernel
theorem d_mo_trapped_73 : decode c_mo_trapped 73 = .ok (.goto 4, 3) := by decide +kernel
theorem d_mo_trapped_76 : decode c_mo_trapped 76 = .ok (.iconst 0, 1) := by decide +kernel
theorem d_mo_trapped_77 : decode c_mo_trapped 77 = .ok (.bastore, 1) := by decide +kernel
theorem d_mo_trapped_78 : decode c_mo_trapped 78 = .ok (.iinc 4 1, 3) := by decide +kernel
theorem d_mo_trapped_81 : decode c_mo_trapped 81 = .ok (.goto (-42), 3) := by decide +kernel
theorem d_mo_trapped_84 : decode c_mo_trapped 84 = .ok (.iconst 0, 1) := by decide +kernel
theorem d_mo_trapped_85 : decode c_mo_trapped 85 = .ok (.istore 4, 2) := by decide +kernel
theorem d_mo_trapped_87 : decode c_mo_trapped 87 = .ok (.iload 4, 2) := by decide +kernel
theorem d_mo_trapped_89 : decode c_mo_trapped 89 = .ok (.aload_n 0, 1) := by decide +kernel
theorem d_mo_trapped_90 : decode c_mo_trapped 90 = .ok (.getfield 208, 3) := by decide +kernel
theorem d_mo_trapped_93 : decode c_mo_trapped 93 = .ok (.if_icmp .ge 22, 3) := by decide +kernel
theorem d_mo_trapped_96 : decode c_mo_trapped 96 = .ok (.aload_n 0, 1) := by decide +kernel
theorem d_mo_trapped_97 : decode c_mo_trapped 97 = .ok (.getfield 43, 3) := by decide +kernel
theorem d_mo_trapped_100 : decode c_mo_trapped 100 = .ok (.aload_n 0, 1) := by decide +kernel
theorem d_mo_trapped_101 : decode c_mo_trapped 101 = .ok (.getfield 80, 3) := by decide +kernel
theorem d_mo_trapped_104 : decode c_mo_trapped 104 = .ok (.iload 4, 2) := by decide +kernel
theorem d_mo_trapped_106 : decode c_mo_trapped 106 = .ok (.iaload, 1) := by decide +kernel
theorem d_mo_trapped_107 : decode c_mo_trapped 107 = .ok (.iconst 0, 1) := by decide +kernel
theorem d_mo_trapped_108 : decode c_mo_trapped 108 = .ok (.iastore, 1) := by decide +kernel
theorem d_mo_trapped_109 : decode c_mo_trapped 109 = .ok (.iinc 4 1, 3) := by decide +kernel
theorem d_mo_trapped_112 : decode c_mo_trapped 112 = .ok (.goto (-25), 3) := by decide +kernel
theorem d_mo_trapped_115 : decode c_mo_trapped 115 = .ok (.aload_n 0, 1) := by decide +kernel
theorem d_mo_trapped_116 : decode c_mo_trapped 116 = .ok (.iconst 0, 1) := by decide +kernel
theorem d_mo_trapped_117 : decode c_mo_trapped 117 = .ok (.putfield 208, 3) := by decide +kernel
theorem d_mo_trapped_120 : decode c_mo_trapped 120 = .ok (.iconst 0, 1) := by decide +kernel
theorem d_mo_trapped_121 : decode c_mo_trapped 121 = .ok (.istore 4, 2) := by decide +kernel
theorem d_mo_trapped_123 : decode c_mo_trapped 123 = .ok (.iload 4, 2) := by decide +kernel
theorem d_mo_trapped_125 : decode c_mo_trapped 125 = .ok (.bipush 6, 2) := by decide +kernel
theorem d_mo_trapped_127 : decode c_mo_trapped 127 = .ok (.if_icmp .ge 19, 3) := by decide +kernel
theorem d_mo_trapped_130 : decode c_mo_trapped 130 = .ok (.aload_n 0, 1) := by decide +kernel
theorem d_mo_trapped_131 : decode c_mo_trapped 131 = .ok (.getfield 40, 3) := by decide +kernel
theorem d_mo_trapped_134 : decode c_mo_trapped 134 = .ok (.iload 4, 2) := by decide +kernel
theorem d_mo_trapped_136 : decode c_mo_trapped 136 = .ok (.sipush 128, 3) := by decide +kernel
theorem d_mo_trapped_139 : decode c_mo_trapped 139 = .ok (.iastore, 1) := by decide +kernel
theorem d_mo_trapped_140 : decode c_mo_trapped 140 = .ok (.iinc 4 1, 3) := by decide +kernel
theorem d_mo_trapped_143 : decode c_mo_trapped 143 = .ok (.goto (-20), 3) := by decide +kernel
theorem d_mo_trapped_146 : decode c_mo_trapped 146 = .ok (.aload_n 0, 1) := by decide +kernel
theorem d_mo_trapped_147 : decode c_mo_trapped 147 = .ok (.getfield 43, 3) := by decide +kernel
theorem d_mo_trapped_150 : decode c_mo_trapped 150 = .ok (.iload_n 3, 1) := by decide +kernel
theorem d_mo_trapped_151 : decode c_mo_trapped 151 = .ok (.iconst 2, 1) := by decide +kernel
theorem d_mo_trapped_152 : decode c_mo_trapped 152 = .ok (.iastore, 1) := by decide +kernel
theorem d_mo_trapped_153 : decode c_mo_trapped 153 = .ok (.aload_n 0, 1) := by decide +kernel
theorem d_mo_trapped_154 : decode c_mo_trapped 154 = .ok (.iload_n 1, 1) := by decide +kernel
theorem d_mo_trapped_155 : decode c_mo_trapped 155 = .ok (.putfield 278, 3) := by decide +kernel
theorem d_mo_trapped_158 : decode c_mo_trapped 158 = .ok (.aload_n 0, 1) := by decide +kernel
theorem d_mo_trapped_159 : decode c_mo_trapped 159 = .ok (.iload_n 2, 1) := by decide +kernel
theorem d_mo_trapped_160 : decode c_mo_trapped 160 = .ok (.putfield 281, 3) := by decide +kernel
theorem d_mo_trapped_163 : decode c_mo_trapped 163 = .ok (.aload_n 0, 1) := by decide +kernel
theorem d_mo_trapped_164 : decode c_mo_trapped 164 = .ok (.iload_n 3, 1) := by decide +kernel
theorem d_mo_trapped_165 : decode c_mo_trapped 165 = .ok (.putfield 89, 3) := by decide +kernel
theorem d_mo_trapped_168 : decode c_mo_trapped 168 = .ok (.iload_n 1, 1) := by decide +kernel
theorem d_mo_trapped_169 : decode c_mo_trapped 169 = .ok (.ireturn, 1) := by decide +kernel
theorem d_mo_trap_0 : decode c_mo_trap 0 = .ok (.aload_n 0, 1) := by decide +kernel
theorem d_mo_trap_1 : decode c_mo_trap 1 = .ok (.aload_n 0, 1) := by decide +kernel
theorem d_mo_trap_2 : decode c_mo_trap 2 = .ok (.getfield 208, 3) := by decide +kernel
theorem d_mo_trap_5 : decode c_mo_trap 5 = .ok (.ifCond .ne 7, 3) := by decide +kernel
theorem d_mo_trap_8 : decode c_mo_trap 8 = .ok (.iconst 1, 1) := by decide +kernel
theorem d_mo_trap_9 : decode c_mo_trap 9 = .ok (.goto 4, 3) := by decide +kernel
theorem d_mo_trap_12 : decode c_mo_trap 12 = .ok (.iconst 0, 1) := by decide +kernel
theorem d_mo_trap_13 : decode c_mo_trap 13 = .ok (.invokevirtual 157, 3) := by decide +kernel
theorem d_mo_trap_16 : decode c_mo_trap 16 = .ok (.ifCond .eq 4, 3) := by decide +kernel
theorem d_mo_trap_19 : decode c_mo_trap 19 = .ok (.return_, 1) := by decide +kernel
theorem d_mo_trap_20 : decode c_mo_trap 20 = .ok (.aload_n 0, 1) := by decide +kernel
theorem d_mo_trap_21 : decode c_mo_trap 21 = .ok (.iconst 0, 1) := by decide +kernel
theorem d_mo_trap_22 : decode c_mo_trap 22 = .ok (.putfield 260, 3) := by decide +kernel
theorem d_mo_trap_25 : decode c_mo_trap 25 = .ok (.aload_n 0, 1) := by decide +kernel
theorem d_mo_trap_26 : decode c_mo_trap 26 = .ok (.bipush 13, 2) := by decide +kernel
theorem d_mo_trap_28 : decode c_mo_trap 28 = .ok (.iconst 0, 1) := by decide +kernel
theorem d_mo_trap_29 : decode c_mo_trap 29 = .ok (.aload_n 0, 1) := by decide +kernel
theorem d_mo_trap_30 : decode c_mo_trap 30 = .ok (.getfield 80, 3) := by decide +kernel
theorem d_mo_trap_33 : decode c_mo_trap 33 = .ok (.aload_n 0, 1) := by decide +kernel
theorem d_mo_trap_34 : decode c_mo_trap 34 = .ok (.getfield 208, 3) := by decide +kernel
theorem d_mo_trap_37 : decode c_mo_trap 37 = .ok (.iconst 1, 1) := by decide +kernel
theorem d_mo_trap_38 : decode c_mo_trap 38 = .ok (.isub, 1) := by decide +kernel
theorem d_mo_trap_39 : decode c_mo_trap 39 = .ok (.iaload, 1) := by decide +kernel
theorem d_mo_trap_40 : decode c_mo_trap 40 = .ok (.invokevirtual 284, 3) := by decide +kernel
theorem d_mo_trap_43 : decode c_mo_trap 43 = .ok (.pop, 1) := by decide +kernel
theorem d_mo_trap_44 : decode c_mo_trap 44 = .ok (.return_, 1) := by decide +kernel
