theorem d_mo_call_0 : decode c_mo_call 0 = .ok (.iload_n 1, 1) := by decide +kernel
theorem d_mo_call_1 : decode c_mo_call 1 = .ok (.ifCond .lt 23, 3) := by decide +kernel
theorem d_mo_call_4 : decode c_mo_call 4 = .ok (.iload_n 1, 1) := by decide +kernel
theorem d_mo_call_5 : decode c_mo_call 5 = .ok (.aload_n 0, 1) := by decide +kernel
theorem d_mo_call_6 : decode c_mo_call 6 = .ok (.getfield 203, 3) := by decide +kernel
theorem d_mo_call_9 : decode c_mo_call 9 = .ok (.if_icmp .ge 15, 3) := by decide +kernel
theorem d_mo_call_12 : decode c_mo_call 12 = .ok (.aload_n 0, 1) := by decide +kernel
theorem d_mo_call_13 : decode c_mo_call 13 = .ok (.iload_n 2, 1) := by decide +kernel
theorem d_mo_call_14 : decode c_mo_call 14 = .ok (.invokevirtual 150, 3) := by decide +kernel
theorem d_mo_call_17 : decode c_mo_call 17 = .ok (.ifCond .eq 7, 3) := by decide +kernel
theorem d_mo_call_20 : decode c_mo_call 20 = .ok (.iconst 1, 1) := by decide +kernel
theorem d_mo_call_21 : decode c_mo_call 21 = .ok (.goto 4, 3) := by decide +kernel
theorem d_mo_call_24 : decode c_mo_call 24 = .ok (.iconst 0, 1) := by decide +kernel
theorem d_mo_call_25 : decode c_mo_call 25 = .ok (.istore 4, 2) := by decide +kernel
theorem d_mo_call_27 : decode c_mo_call 27 = .ok (.aload_n 0, 1) := by decide +kernel
theorem d_mo_call_28 : decode c_mo_call 28 = .ok (.aload_n 0, 1) := by decide +kernel
theorem d_mo_call_29 : decode c_mo_call 29 = .ok (.getfield 208, 3) := by decide +kernel
theorem d_mo_call_32 : decode c_mo_call 32 = .ok (.ifCond .ne 7, 3) := by decide +kernel
theorem d_mo_call_35 : decode c_mo_call 35 = .ok (.iconst 1, 1) := by decide +kernel
theorem d_mo_call_36 : decode c_mo_call 36 = .ok (.goto 50, 3) := by decide +kernel
theorem d_mo_call_39 : decode c_mo_call 39 = .ok (.iload 4, 2) := by decide +kernel
theorem d_mo_call_41 : decode c_mo_call 41 = .ok (.ifCond .ne 7, 3) := by decide +kernel
theorem d_mo_call_44 : decode c_mo_call 44 = .ok (.iconst 2, 1) := by decide +kernel
theorem d_mo_call_45 : decode c_mo_call 45 = .ok (.goto 41, 3) := by decide +kernel
theorem d_mo_call_48 : decode c_mo_call 48 = .ok (.aload_n 0, 1) := by decide +kernel
theorem d_mo_call_49 : decode c_mo_call 49 = .ok (.iload_n 2, 1) := by decide +kernel
theorem d_mo_call_50 : decode c_mo_call 50 = .ok (.aload_n 0, 1) := by decide +kernel
theorem d_mo_call_51 : decode c_mo_call 51 = .ok (.getfield 74, 3) := by decide +kernel
theorem d_mo_call_54 : decode c_mo_call 54 = .ok (.iload_n 1, 1) := by decide +kernel
theorem d_mo_call_55 : decode c_mo_call 55 = .ok (.iaload, 1) := by decide +kernel
theorem d_mo_call_56 : decode c_mo_call 56 = .ok (.invokevirtual 194, 3) := by decide +kernel
theorem d_mo_call_59 : decode c_mo_call 59 = .ok (.ifCond .le 7, 3) := by decide +kernel
theorem d_mo_call_62 : decode c_mo_call 62 = .ok (.iconst 3, 1) := by decide +kernel
theorem d_mo_call_63 : decode c_mo_call 63 = .ok (.goto 23, 3) := by decide +kernel
theorem d_mo_call_66 : decode c_mo_call 66 = .ok (.aload_n 0, 1) := by decide +kernel
theorem d_mo_call_67 : decode c_mo_call 67 = .ok (.getfield 43, 3) := by decide +kernel
theorem d_mo_call_70 : decode c_mo_call 70 = .ok (.aload_n 0, 1) := by decide +kernel
theorem d_mo_call_71 : decode c_mo_call 71 = .ok (.getfield 71, 3) := by decide +kernel
theorem d_mo_call_74 : decode c_mo_call 74 = .ok (.iload_n 1, 1) := by decide +kernel
theorem d_mo_call_75 : decode c_mo_call 75 = .ok (.iaload, 1) := by decide +kernel
theorem d_mo_call_76 : decode c_mo_call 76 = .ok (.iaload, 1) := by decide +kernel
theorem d_mo_call_77 : decode c_mo_call 77 = .ok (.iconst 1, 1) := by decide +kernel
theorem d_mo_call_78 : decode c_mo_call 78 = .ok (.if_icmp .le 7, 3) := by decide +kernel
theorem d_mo_call_81 : decode c_mo_call 81 = .ok (.iconst 4, 1) := by decide +kernel
theorem d_mo_call_82 : decode c_mo_call 82 = .ok (.goto 4, 3) := by decide +kernel
theorem d_mo_call_85 : decode c_mo_call 85 = .ok (.iconst 0, 1) := by decide +kernel
theorem d_mo_call_86 : decode c_mo_call 86 = .ok (.invokevirtual 157, 3) := by decide +kernel
theorem d_mo_call_89 : decode c_mo_call 89 = .ok (.ifCond .eq 5, 3) := by decide +kernel
theorem d_mo_call_92 : decode c_mo_call 92 = .ok (.iconst 0, 1) := by decide +kernel
theorem d_mo_call_93 : decode c_mo_call 93 = .ok (.ireturn, 1) := by decide +kernel
theorem d_mo_call_94 : decode c_mo_call 94 = .ok (.aload_n 0, 1) := by decide +kernel
theorem d_mo_call_95 : decode c_mo_call 95 = .ok (.getfield 80, 3) := by decide +kernel
theorem d_mo_call_98 : decode c_mo_call 98 = .ok (.aload_n 0, 1) := by decide +kernel
theorem d_mo_call_99 : decode c_mo_call 99 = .ok (.getfield 208, 3) := by decide +kernel
theorem d_mo_call_102 : decode c_mo_call 102 = .ok (.iconst 1, 1) := by decide +kernel
theorem d_mo_call_103 : decode c_mo_call 103 = .ok (.isub, 1) := by decide +kernel
theorem d_mo_call_104 : decode c_mo_call 104 = .ok (.iaload, 1) := by decide +kernel
theorem d_mo_call_105 : decode c_mo_call 105 = .ok (.istore 5, 2) := by decide +kernel
theorem d_mo_call_107 : decode c_mo_call 107 = .ok (.aload_n 0, 1) := by decide +kernel
theorem d_mo_call_108 : decode c_mo_call 108 = .ok (.getfield 71, 3) := by decide +kernel
theorem d_mo_call_111 : decode c_mo_call 111 = .ok (.iload_n 1, 1) := by decide +kernel
theorem d_mo_call_112 : decode c_mo_call 112 = .ok (.iaload, 1) := by decide +kernel
theorem d_mo_call_113 : decode c_mo_call 113 = .ok (.istore 6, 2) := by decide +kernel
theorem d_mo_call_115 : decode c_mo_call 115 = .ok (.aload_n 0, 1) := by decide +kernel
theorem d_mo_call_116 : decode c_mo_call 116 = .ok (.iconst 0, 1) := by decide +kernel
theorem d_mo_call_117 : decode c_mo_call 117 = .ok (.putfield 260, 3) := by decide +kernel
theorem d_mo_call_120 : decode c_mo_call 120 = .ok (.aload_n 0, 1) := by decide +kernel
theorem d_mo_call_121 : decode c_mo_call 121 = .ok (.getfield 43, 3) := by decide +kernel
theorem d_mo_call_124 : decode c_mo_call 124 = .ok (.iload 6, 2) := by decide +kernel
theorem d_mo_call_126 : decode c_mo_call 126 = .ok (.iaload, 1) := by decide +kernel
theorem d_mo_call_127 : decode c_mo_call 127 = .ok (.iconst 1, 1) := by decide +kernel
theorem d_mo_call_128 : decode c_mo_call 128 = .ok (.if_icmp .ne 13, 3) := by decide +kernel
theorem d_mo_call_131 : decode c_mo_call 131 = .ok (.aload_n 0, 1) := by decide +kernel
theorem d_mo_call_132 : decode c_mo_call 132 = .ok (.bipush 14, 2) := by decide +kernel
theorem d_mo_call_134 : decode c_mo_call 134 = .ok (.iload_n 3, 1) := by decide +kernel
theorem d_mo_call_135 : decode c_mo_call 135 = .ok (.iload 5, 2) := by decide +kernel
theorem d_mo_call_137 : decode c_mo_call 137 = .ok (.invokevirtual 284, 3) := by decide +kernel
theorem d_mo_call_140 : decode c_mo_call 140 = .ok (.ireturn, 1) := by decide +kernel
theorem d_mo_call_141 : decode c_mo_call 141 = .ok (.aload_n 0, 1) := by decide +kernel
theorem d_mo_call_142 : decode c_mo_call 142 = .ok (.iload 5, 2) := by decide +kernel
theorem d_mo_call_144 : decode c_mo_call 144 = .ok (.iload_n 2, 1) := by decide +kernel
theorem d_mo_call_145 : decode c_mo_call 145 = .ok (.iload_n 3, 1) := by decide +kernel
theorem d_mo_call_146 : decode c_mo_call 146 = .ok (.iload 6, 2) := by decide +kernel
theorem d_mo_call_148 : decode c_mo_call 148 = .ok (.aload_n 0, 1) := by decide +kernel
theorem d_mo_call_149 : decode c_mo_call 149 = .ok (.getfield 74, 3) := by decide +kernel
theorem d_mo_call_152 : decode c_mo_call 152 = .ok (.iload_n 1, 1) := by decide +kernel
theorem d_mo_call_153 : decode c_mo_call 153 = .ok (.iaload, 1) := by decide +kernel
theorem d_mo_call_154 : decode c_mo_call 154 = .ok (.invokevirtual 287, 3) := by decide +kernel
theorem d_mo_call_157 : decode c_mo_call 157 = .ok (.istore 7, 2) := by decide +kernel
theorem d_mo_call_159 : decode c_mo_call 159 = .ok (.aload_n 0, 1) := by decide +kernel
theorem d_mo_call_160 : decode c_mo_call 160 = .ok (.getfield 224, 3) := by decide +kernel
theorem d_mo_call_163 : decode c_mo_call 163 = .ok (.ifCond .le 41, 3) := by decide +kernel
theorem d_mo_call_166 : decode c_mo_call 166 = .ok (.aload_n 0, 1) := by decide +kernel
theorem d_mo_call_167 : decode c_mo_call 167 = .ok (.aload_n 0, 1) := by decide +kernel
theorem d_mo_call_168 : decode c_mo_call 168 = .ok (.getfield 224, 3) := by decide +kernel
theorem d_mo_call_171 : decode c_mo_call 171 = .ok (.aload_n 0, 1) := by decide +kernel
theorem d_mo_call_172 : decode c_mo_call 172 = .ok (.getfield 227, 3) := by decide +kernel
theorem d_mo_call_175 : decode c_mo_call 175 = .ok (.aload_n 0, 1) := by decide +kernel
theorem d_mo_call_176 : decode c_mo_call 176 = .ok (.getfield 224, 3) := by decide +kernel
theorem d_mo_call_179 : decode c_mo_call 179 = .ok (.bipush 11, 2) := by decide +kernel
theorem d_mo_call_181 : decode c_mo_call 181 = .ok (.if_icmp .eq 12, 3) := by decide +kernel
theorem d_mo_call_184 : decode c_mo_call 184 = .ok (.aload_n 0, 1) := by decide +kernel
theorem d_mo_call_185 : decode c_mo_call 185 = .ok (.getfield 224, 3) := by decide +kernel
theorem d_mo_call_188 : decode c_mo_call 188 = .ok (.bipush 12, 2) := by decide +kernel
theorem d_mo_call_190 : decode c_mo_call 190 = .ok (.if_icmp .ne 8, 3) := by decide +kernel
theorem d_mo_call_193 : decode c_mo_call 193 = .ok (.iload 6, 2) := by decide +kernel
theorem d_mo_call_195 : decode c_mo_call 195 = .ok (.goto 5, 3) := by decide +kernel
theorem d_mo_call_198 : decode c_mo_call 198 = .ok (.iload 5, 2) := by decide +kernel
theorem d_mo_call_200 : decode c_mo_call 200 = .ok (.invokevirtual 284, 3) := by decide +kernel
theorem d_mo_call_203 : decode c_mo_call 203 = .ok (.ireturn, 1) := by decide +kernel
theorem d_mo_call_204 : decode c_mo_call 204 = .ok (.aload_n 0, 1) := by decide +kernel
theorem d_mo_call_205 : decode c_mo_call 205 = .ok (.iload 6, 2) := by decide +kernel
theorem d_mo_call_207 : decode c_mo_call 207 = .ok (.iload_n 1, 1) := by decide +kernel
theorem d_mo_call_208 : decode c_mo_call 208 = .ok (.iload 7, 2) := by decide +kernel
theorem d_mo_call_210 : decode c_mo_call 210 = .ok (.invokevirtual 211, 3) := by decide +kernel
theorem d_mo_call_213 : decode c_mo_call 213 = .ok (.iconst 0, 1) := by decide +kernel
theorem d_mo_call_214 : decode c_mo_call 214 = .ok (.ireturn, 1) := by decide +kernel
theorem d_mo_back_0 : decode c_mo_back 0 = .ok (.aload_n 0, 1) := by decide +kernel
theorem d_mo_back_1 : decode c_mo_back 1 = .ok (.aload_n 0, 1) := by decide +kernel
theorem d_mo_back_2 : decode c_mo_back 2 = .ok (.getfield 208, 3) := by decide +kernel
theorem d_mo_back_5 : decode c_mo_back 5 = .ok (.iconst 2, 1) := by decide +kernel
theorem d_mo_back_6 : decode c_mo_back 6 = .ok (.if_icmp .ge 7, 3) := by decide +kernel
theorem d_mo_back_9 : decode c_mo_back 9 = .ok (.iconst 1, 1) := by decide +kernel
theorem d_mo_back_10 : decode c_mo_back 10 = .ok (.goto 44, 3) := by decide +kernel
theorem d_mo_back_13 : decode c_mo_back 13 = .ok (.aload_n 0, 1) := by decide +kernel
theorem d_mo_back_14 : decode c_mo_back 14 = .ok (.iload_n 1, 1) := by decide +kernel
theorem d_mo_back_15 : decode c_mo_back 15 = .ok (.invokevirtual 150, 3) := by decide +kernel
theorem d_mo_back_18 : decode c_mo_back 18 = .ok (.ifCond .ne 7, 3) := by decide +kernel
theorem d_mo_back_21 : decode c_mo_back 21 = .ok (.iconst 2, 1) := by decide +kernel
theorem d_mo_back_22 : decode c_mo_back 22 = .ok (.goto 32, 3) := by decide +kernel
theorem d_mo_back_25 : decode c_mo_back 25 = .ok (.aload_n 0, 1) := by decide +kernel
theorem d_mo_back_26 : decode c_mo_back 26 = .ok (.iload_n 1, 1) := by decide +kernel
theorem d_mo_back_27 : decode c_mo_back 27 = .ok (.aload_n 0, 1) := by decide +kernel
theorem d_mo_back_28 : decode c_mo_back 28 = .ok (.getfield 77, 3) := by decide +kernel
theorem d_mo_back_31 : decode c_mo_back 31 = .ok (.aload_n 0, 1) := by decide +kernel
theorem d_mo_back_32 : decode c_mo_back 32 = .ok (.getfield 83, 3) := by decide +kernel
theorem d_mo_back_35 : decode c_mo_back 35 = .ok (.aload_n 0, 1) := by decide +kernel
theorem d_mo_back_36 : decode c_mo_back 36 = .ok (.getfield 208, 3) := by decide +kernel
theorem d_mo_back_39 : decode c_mo_back 39 = .ok (.iconst 1, 1) := by decide +kernel
theorem d_mo_back_40 : decode c_mo_back 40 = .ok (.isub, 1) := by decide +kernel
theorem d_mo_back_41 : decode c_mo_back 41 = .ok (.iaload, 1) := by decide +kernel
theorem d_mo_back_42 : decode c_mo_back 42 = .ok (.iaload, 1) := by decide +kernel
theorem d_mo_back_43 : decode c_mo_back 43 = .ok (.invokevirtual 194, 3) := by decide +kernel
theorem d_mo_back_46 : decode c_mo_back 46 = .ok (.ifCond .le 7, 3) := by decide +kernel
theorem d_mo_back_49 : decode c_mo_back 49 = .ok (.iconst 3, 1) := by decide +kernel
theorem d_mo_back_50 : decode c_mo_back 50 = .ok (.goto 4, 3) := by decide +kernel
theorem d_mo_back_53 : decode c_mo_back 53 = .ok (.iconst 0, 1) := by decide +kernel
theorem d_mo_back_54 : decode c_mo_back 54 = .ok (.invokevirtual 157, 3) := by decide +kernel
theorem d_mo_back_57 : decode c_mo_back 57 = .ok (.ifCond .eq 5, 3) := by decide +kernel
theorem d_mo_back_60 : decode c_mo_back 60 = .ok (.iconst 0, 1) := by decide +kernel
theorem d_mo_back_61 : decode c_mo_back 61 = .ok (.ireturn, 1) := by decide +kernel
theorem d_mo_back_62 : decode c_mo_back 62 = .ok (.aload_n 0, 1) := by decide +kernel
theorem d_mo_back_63 : decode c_mo_back 63 = .ok (.getfield 80, 3) := by decide +kernel
theorem d_mo_back_66 : decode c_mo_back 66 = .ok (.aload_n 0, 1) := by decide +kernel
theorem d_mo_back_67 : decode c_mo_back 67 = .ok (.getfield 208, 3) := by decide +kernel
theorem d_mo_back_70 : decode c_mo_back 70 = .ok (.iconst 1, 1) := by decide +kernel
theorem d_mo_back_71 : decode c_mo_back 71 = .ok (.isub, 1) := by decide +kernel
theorem d_mo_back_72 : decode c_mo_back 72 = .ok (.iaload, 1) := by decide +kernel
theorem d_mo_back_73 : decode c_mo_back 73 = .ok (.istore_n 3, 1) := by decide +kernel
theorem d_mo_back_74 : decode c_mo_back 74 = .ok (.aload_n 0, 1) := by decide +kernel
theorem d_mo_back_75 : decode c_mo_back 75 = .ok (.getfield 80, 3) := by decide +kernel
theorem d_mo_back_78 : decode c_mo_back 78 = .ok (.aload_n 0, 1) := by decide +kernel
theorem d_mo_back_79 : decode c_mo_back 79 = .ok (.getfield 208, 3) := by decide +kernel
theorem d_mo_back_82 : decode c_mo_back 82 = .ok (.iconst 2, 1) := by decide +kernel
theorem d_mo_back_83 : decode c_mo_back 83 = .ok (.isub, 1) := by decide +kernel
theorem d_mo_back_84 : decode c_mo_back 84 = .ok (.iaload, 1) := by decide +kernel
theorem d_mo_back_85 : decode c_mo_back 85 = .ok (.istore 4, 2) := by decide +kernel
theorem d_mo_back_87 : decode c_mo_back 87 = .ok (.aload_n 0, 1) := by decide +kernel
theorem d_mo_back_88 : decode c_mo_back 88 = .ok (.iload_n 3, 1) := by decide +kernel
theorem d_mo_back_89 : decode c_mo_back 89 = .ok (.iload_n 1, 1) := by decide +kernel
theorem d_mo_back_90 : decode c_mo_back 90 = .ok (.iload_n 2, 1) := by decide +kernel
theorem d_mo_back_91 : decode c_mo_back 91 = .ok (.iload 4, 2) := by decide +kernel
theorem d_mo_back_93 : decode c_mo_back 93 = .ok (.aload_n 0, 1) := by decide +kernel
theorem d_mo_back_94 : decode c_mo_back 94 = .ok (.getfield 77, 3) := by decide +kernel
theorem d_mo_back_97 : decode c_mo_back 97 = .ok (.aload_n 0, 1) := by decide +kernel
theorem d_mo_back_98 : decode c_mo_back 98 = .ok (.getfield 83, 3) := by decide +kernel
theorem d_mo_back_101 : decode c_mo_back 101 = .ok (.aload_n 0, 1) := by decide +kernel
theorem d_mo_back_102 : decode c_mo_back 102 = .ok (.getfield 208, 3) := by decide +kernel
theorem d_mo_back_105 : decode c_mo_back 105 = .ok (.iconst 1, 1) := by decide +kernel
theorem d_mo_back_106 : decode c_mo_back 106 = .ok (.isub, 1) := by decide +kernel
theorem d_mo_back_107 : decode c_mo_back 107 = .ok (.iaload, 1) := by decide +kernel
theorem d_mo_back_108 : decode c_mo_back 108 = .ok (.iaload, 1) := by decide +kernel
theorem d_mo_back_109 : decode c_mo_back 109 = .ok (.invokevirtual 287, 3) := by decide +kernel
theorem d_mo_back_112 : decode c_mo_back 112 = .ok (.istore 5, 2) := by decide +kernel
theorem d_mo_back_114 : decode c_mo_back 114 = .ok (.aload_n 0, 1) := by decide +kernel
theorem d_mo_back_115 : decode c_mo_back 115 = .ok (.getfield 224, 3) := by decide +kernel
theorem d_mo_back_118 : decode c_mo_back 118 = .ok (.ifCond .le 40, 3) := by decide +kernel
theorem d_mo_back_121 : decode c_mo_back 121 = .ok (.aload_n 0, 1) := by decide +kernel
theorem d_mo_back_122 : decode c_mo_back 122 = .ok (.aload_n 0, 1) := by decide +kernel
theorem d_mo_back_123 : decode c_mo_back 123 = .ok (.getfield 224, 3) := by decide +kernel
theorem d_mo_back_126 : decode c_mo_back 126 = .ok (.aload_n 0, 1) := by decide +kernel
theorem d_mo_back_127 : decode c_mo_back 127 = .ok (.getfield 227, 3) := by decide +kernel
theorem d_mo_back_130 : decode c_mo_back 130 = .ok (.aload_n 0, 1) := by decide +kernel
theorem d_mo_back_131 : decode c_mo_back 131 = .ok (.getfield 224, 3) := by decide +kernel
theorem d_mo_back_134 : decode c_mo_back 134 = .ok (.bipush 11, 2) := by decide +kernel
theorem d_mo_back_136 : decode c_mo_back 136 = .ok (.if_icmp .eq 12, 3) := by decide +kernel
theorem d_mo_back_139 : decode c_mo_back 139 = .ok (.aload_n 0, 1) := by decide +kernel
theorem d_mo_back_140 : decode c_mo_back 140 = .ok (.getfield 224, 3) := by decide +kernel
theorem d_mo_back_143 : decode c_mo_back 143 = .ok (.bipush 12, 2) := by decide +kernel
theorem d_mo_back_145 : decode c_mo_back 145 = .ok (.if_icmp .ne 8, 3) := by decide +kernel
theorem d_mo_back_148 : decode c_mo_back 148 = .ok (.iload 4, 2) := by decide +kernel
theorem d_mo_back_150 : decode c_mo_back 150 = .ok (.goto 4, 3) := by decide +kernel
theorem d_mo_back_153 : decode c_mo_back 153 = .ok (.iload_n 3, 1) := by decide +kernel
theorem d_mo_back_154 : decode c_mo_back 154 = .ok (.invokevirtual 284, 3) := by decide +kernel
theorem d_mo_back_157 : decode c_mo_back 157 = .ok (.ireturn, 1) := by decide +kernel
theorem d_mo_back_158 : decode c_mo_back 158 = .ok (.iconst 1, 1) := by decide +kernel
theorem d_mo_back_159 : decode c_mo_back 159 = .ok (.istore 6, 2) := by decide +kernel
theorem d_mo_back_161 : decode c_mo_back 161 = .ok (.iload 6, 2) := by decide +kernel
theorem d_mo_back_163 : decode c_mo_back 163 = .ok (.bipush 16, 2) := by decide +kernel
theorem d_mo_back_165 : decode c_mo_back 165 = .ok (.if_icmp .gt 56, 3) := by decide +kernel
theorem d_mo_back_168 : decode c_mo_back 168 = .ok (.aload_n 0, 1) := by decide +kernel
theorem d_mo_back_169 : decode c_mo_back 169 = .ok (.getfield 46, 3) := by decide +kernel
theorem d_mo_back_172 : decode c_mo_back 172 = .ok (.bipush 17, 2) := by decide +kernel
theorem d_mo_back_174 : decode c_mo_back 174 = .ok (.iload_n 3, 1) := by decide +kernel
theorem d_mo_back_175 : decode c_mo_back 175 = .ok (.imul, 1) := by decide +kernel
theorem d_mo_back_176 : decode c_mo_back 176 = .ok (.iload 6, 2) := by decide +kernel
theorem d_mo_back_178 : decode c_mo_back 178 = .ok (.iadd, 1) := by decide +kernel
theorem d_mo_back_179 : decode c_mo_back 179 = .ok (.aload_n 0, 1) := by decide +kernel
theorem d_mo_back_180 : decode c_mo_back 180 = .ok (.getfield 46, 3) := by decide +kernel
theorem d_mo_back_183 : decode c_mo_back 183 = .ok (.bipush 17, 2) := by decide +kernel
theorem d_mo_back_185 : decode c_mo_back 185 = .ok (.iload_n 3, 1) := by decide +kernel
theorem d_mo_back_186 : decode c_mo_back 186 = .ok (.imul, 1) := by decide +kernel
theorem d_mo_back_187 : decode c_mo_back 187 = .ok (.iload 6, 2) := by decide +kernel
theorem d_mo_back_189 : decode c_mo_back 189 = .ok (.iadd, 1) := by decide +kernel
theorem d_mo_back_190 : decode c_mo_back 190 = .ok (.baload, 1) := by decide +kernel
theorem d_mo_back_191 : decode c_mo_back 191 = .ok (.ifCond .eq 22, 3) := by decide +kernel
theorem d_mo_back_194 : decode c_mo_back 194 = .ok (.aload_n 0, 1) := by decide +kernel
theorem d_mo_back_195 : decode c_mo_back 195 = .ok (.getfield 53, 3) := by decide +kernel
theorem d_mo_back_198 : decode c_mo_back 198 = .ok (.bipush 17, 2) := by decide +kernel
theorem d_mo_back_200 : decode c_mo_back 200 = .ok (.iload_n 3, 1) := by decide +kernel
theorem d_mo_back_201 : decode c_mo_back 201 = .ok (.imul, 1) := by decide +kernel
theorem d_mo_back_202 : decode c_mo_back 202 = .ok (.iload 6, 2) := by decide +kernel
theorem d_mo_back_204 : decode c_mo_back 204 = .ok (.iadd, 1) := by decide +kernel
theorem d_mo_back_205 : decode c_mo_back 205 = .ok (.baload, 1) := by decide +kernel
theorem d_mo_back_206 : decode c_mo_back 206 = .ok (.ifCond .eq 7, 3) := by decide +kernel
theorem d_mo_back_209 : decode c_mo_back 209 = .ok (.iconst 1, 1) := by decide +kernel
theorem d_mo_back_210 : decode c_mo_back 210 = .ok (.goto 4, 3) := by decide +kernel
theorem d_mo_back_213 : decode c_mo_back 213 = .ok (.iconst 0, 1) := by decide +kernel
theorem d_mo_back_214 : decode c_mo_back 214 = .ok (.bastore, 1) := by decide +kernel
theorem d_mo_back_215 : decode c_mo_back 215 = .ok (.iinc 6 1, 3) := by decide +kernel
theorem d_mo_back_218 : decode c_mo_back 218 = .ok (.goto (-57), 3) := by decide +kernel
theorem d_mo_back_221 : decode c_mo_back 221 = .ok (.aload_n 0, 1) := by decide +kernel
theorem d_mo_back_222 : decode c_mo_back 222 = .ok (.getfield 43, 3) := by decide +kernel
theorem d_mo_back_225 : decode c_mo_back 225 = .ok (.iload_n 3, 1) := by decide +kernel
theorem d_mo_back_226 : decode c_mo_back 226 = .ok (.iconst 0, 1) := by decide +kernel
theorem d_mo_back_227 : decode c_mo_back 227 = .ok (.iastore, 1) := by decide +kernel
theorem d_mo_back_228 : decode c_mo_back 228 = .ok (.aload_n 0, 1) := by decide +kernel
theorem d_mo_back_229 : decode c_mo_back 229 = .ok (.getfield 40, 3) := by decide +kernel
theorem d_mo_back_232 : decode c_mo_back 232 = .ok (.iload_n 3, 1) := by decide +kernel
theorem d_mo_back_233 : decode c_mo_back 233 = .ok (.sipush 128, 3) := by decide +kernel
theorem d_mo_back_236 : decode c_mo_back 236 = .ok (.iastore, 1) := by decide +kernel
theorem d_mo_back_237 : decode c_mo_back 237 = .ok (.aload_n 0, 1) := by decide +kernel
theorem d_mo_back_238 : decode c_mo_back 238 = .ok (.dup, 1) := by decide +kernel
theorem d_mo_back_239 : decode c_mo_back 239 = .ok (.getfield 208, 3) := by decide +kernel
theorem d_mo_back_242 : decode c_mo_back 242 = .ok (.iconst 1, 1) := by decide +kernel
theorem d_mo_back_243 : decode c_mo_back 243 = .ok (.isub, 1) := by decide +kernel
theorem d_mo_back_244 : decode c_mo_back 244 = .ok (.putfield 208, 3) := by decide +kernel
theorem d_mo_back_247 : decode c_mo_back 247 = .ok (.aload_n 0, 1) := by decide +kernel
theorem d_mo_back_248 : decode c_mo_back 248 = .ok (.getfield 86, 3) := by decide +kernel
theorem d_mo_back_251 : decode c_mo_back 251 = .ok (.aload_n 0, 1) := by decide +kernel
theorem d_mo_back_252 : decode c_mo_back 252 = .ok (.getfield 208, 3) := by decide +kernel
theorem d_mo_back_255 : decode c_mo_back 255 = .ok (.iconst 1, 1) := by decide +kernel
theorem d_mo_back_256 : decode c_mo_back 256 = .ok (.isub, 1) := by decide +kernel
theorem d_mo_back_257 : decode c_mo_back 257 = .ok (.iload 5, 2) := by decide +kernel
theorem d_mo_back_259 : decode c_mo_back 259 = .ok (.iastore, 1) := by decide +kernel
theorem d_mo_back_260 : decode c_mo_back 260 = .ok (.iconst 0, 1) := by decide +kernel
theorem d_mo_back_261 : decode c_mo_back 261 = .ok (.ireturn, 1) := by decide +kernel
