theorem d_mo_layout_0 : decode c_mo_layout 0 = .ok (.aload_n 0, 1) := by decide +kernel
theorem d_mo_layout_1 : decode c_mo_layout 1 = .ok (.aload_n 0, 1) := by decide +kernel
theorem d_mo_layout_2 : decode c_mo_layout 2 = .ok (.iload_n 1, 1) := by decide +kernel
theorem d_mo_layout_3 : decode c_mo_layout 3 = .ok (.invokevirtual 150, 3) := by decide +kernel
theorem d_mo_layout_6 : decode c_mo_layout 6 = .ok (.ifCond .ne 7, 3) := by decide +kernel
theorem d_mo_layout_9 : decode c_mo_layout 9 = .ok (.iconst 1, 1) := by decide +kernel
theorem d_mo_layout_10 : decode c_mo_layout 10 = .ok (.goto 24, 3) := by decide +kernel
theorem d_mo_layout_13 : decode c_mo_layout 13 = .ok (.iload_n 2, 1) := by decide +kernel
theorem d_mo_layout_14 : decode c_mo_layout 14 = .ok (.ifCond .lt 15, 3) := by decide +kernel
theorem d_mo_layout_17 : decode c_mo_layout 17 = .ok (.iload_n 2, 1) := by decide +kernel
theorem d_mo_layout_18 : decode c_mo_layout 18 = .ok (.iconst 5, 1) := by decide +kernel
theorem d_mo_layout_19 : decode c_mo_layout 19 = .ok (.aload_n 0, 1) := by decide +kernel
theorem d_mo_layout_20 : decode c_mo_layout 20 = .ok (.getfield 25, 3) := by decide +kernel
theorem d_mo_layout_23 : decode c_mo_layout 23 = .ok (.iload_n 1, 1) := by decide +kernel
theorem d_mo_layout_24 : decode c_mo_layout 24 = .ok (.iaload, 1) := by decide +kernel
theorem d_mo_layout_25 : decode c_mo_layout 25 = .ok (.iadd, 1) := by decide +kernel
theorem d_mo_layout_26 : decode c_mo_layout 26 = .ok (.if_icmp .lt 7, 3) := by decide +kernel
theorem d_mo_layout_29 : decode c_mo_layout 29 = .ok (.iconst 2, 1) := by decide +kernel
theorem d_mo_layout_30 : decode c_mo_layout 30 = .ok (.goto 4, 3) := by decide +kernel
theorem d_mo_layout_33 : decode c_mo_layout 33 = .ok (.iconst 0, 1) := by decide +kernel
theorem d_mo_layout_34 : decode c_mo_layout 34 = .ok (.invokevirtual 157, 3) := by decide +kernel
theorem d_mo_layout_37 : decode c_mo_layout 37 = .ok (.ifCond .eq 5, 3) := by decide +kernel
theorem d_mo_layout_40 : decode c_mo_layout 40 = .ok (.iconst 0, 1) := by decide +kernel
theorem d_mo_layout_41 : decode c_mo_layout 41 = .ok (.ireturn, 1) := by decide +kernel
theorem d_mo_layout_42 : decode c_mo_layout 42 = .ok (.iload_n 2, 1) := by decide +kernel
theorem d_mo_layout_43 : decode c_mo_layout 43 = .ok (.ifCond .ne 12, 3) := by decide +kernel
theorem d_mo_layout_46 : decode c_mo_layout 46 = .ok (.aload_n 0, 1) := by decide +kernel
theorem d_mo_layout_47 : decode c_mo_layout 47 = .ok (.getfield 7, 3) := by decide +kernel
theorem d_mo_layout_50 : decode c_mo_layout 50 = .ok (.iload_n 1, 1) := by decide +kernel
theorem d_mo_layout_51 : decode c_mo_layout 51 = .ok (.iaload, 1) := by decide +kernel
theorem d_mo_layout_52 : decode c_mo_layout 52 = .ok (.goto 72, 3) := by decide +kernel
theorem d_mo_layout_55 : decode c_mo_layout 55 = .ok (.iload_n 2, 1) := by decide +kernel
theorem d_mo_layout_56 : decode c_mo_layout 56 = .ok (.iconst 1, 1) := by decide +kernel
theorem d_mo_layout_57 : decode c_mo_layout 57 = .ok (.if_icmp .ne 12, 3) := by decide +kernel
theorem d_mo_layout_60 : decode c_mo_layout 60 = .ok (.aload_n 0, 1) := by decide +kernel
theorem d_mo_layout_61 : decode c_mo_layout 61 = .ok (.getfield 16, 3) := by decide +kernel
theorem d_mo_layout_64 : decode c_mo_layout 64 = .ok (.iload_n 1, 1) := by decide +kernel
theorem d_mo_layout_65 : decode c_mo_layout 65 = .ok (.iaload, 1) := by decide +kernel
theorem d_mo_layout_66 : decode c_mo_layout 66 = .ok (.goto 58, 3) := by decide +kernel
theorem d_mo_layout_69 : decode c_mo_layout 69 = .ok (.iload_n 2, 1) := by decide +kernel
theorem d_mo_layout_70 : decode c_mo_layout 70 = .ok (.iconst 2, 1) := by decide +kernel
theorem d_mo_layout_71 : decode c_mo_layout 71 = .ok (.if_icmp .ne 12, 3) := by decide +kernel
theorem d_mo_layout_74 : decode c_mo_layout 74 = .ok (.aload_n 0, 1) := by decide +kernel
theorem d_mo_layout_75 : decode c_mo_layout 75 = .ok (.getfield 19, 3) := by decide +kernel
theorem d_mo_layout_78 : decode c_mo_layout 78 = .ok (.iload_n 1, 1) := by decide +kernel
theorem d_mo_layout_79 : decode c_mo_layout 79 = .ok (.iaload, 1) := by decide +kernel
theorem d_mo_layout_80 : decode c_mo_layout 80 = .ok (.goto 44, 3) := by decide +kernel
theorem d_mo_layout_83 : decode c_mo_layout 83 = .ok (.iload_n 2, 1) := by decide +kernel
theorem d_mo_layout_84 : decode c_mo_layout 84 = .ok (.iconst 3, 1) := by decide +kernel
theorem d_mo_layout_85 : decode c_mo_layout 85 = .ok (.if_icmp .ne 12, 3) := by decide +kernel
theorem d_mo_layout_88 : decode c_mo_layout 88 = .ok (.aload_n 0, 1) := by decide +kernel
theorem d_mo_layout_89 : decode c_mo_layout 89 = .ok (.getfield 22, 3) := by decide +kernel
theorem d_mo_layout_92 : decode c_mo_layout 92 = .ok (.iload_n 1, 1) := by decide +kernel
theorem d_mo_layout_93 : decode c_mo_layout 93 = .ok (.iaload, 1) := by decide +kernel
theorem d_mo_layout_94 : decode c_mo_layout 94 = .ok (.goto 30, 3) := by decide +kernel
theorem d_mo_layout_97 : decode c_mo_layout 97 = .ok (.iload_n 2, 1) := by decide +kernel
theorem d_mo_layout_98 : decode c_mo_layout 98 = .ok (.iconst 4, 1) := by decide +kernel
theorem d_mo_layout_99 : decode c_mo_layout 99 = .ok (.if_icmp .ne 12, 3) := by decide +kernel
theorem d_mo_layout_102 : decode c_mo_layout 102 = .ok (.aload_n 0, 1) := by decide +kernel
theorem d_mo_layout_103 : decode c_mo_layout 103 = .ok (.getfield 25, 3) := by decide +kernel
theorem d_mo_layout_106 : decode c_mo_layout 106 = .ok (.iload_n 1, 1) := by decide +kernel
theorem d_mo_layout_107 : decode c_mo_layout 107 = .ok (.iaload, 1) := by decide +kernel
theorem d_mo_layout_108 : decode c_mo_layout 108 = .ok (.goto 16, 3) := by decide +kernel
theorem d_mo_layout_111 : decode c_mo_layout 111 = .ok (.aload_n 0, 1) := by decide +kernel
theorem d_mo_layout_112 : decode c_mo_layout 112 = .ok (.getfield 31, 3) := by decide +kernel
theorem d_mo_layout_115 : decode c_mo_layout 115 = .ok (.bipush 6, 2) := by decide +kernel
theorem d_mo_layout_117 : decode c_mo_layout 117 = .ok (.iload_n 1, 1) := by decide +kernel
theorem d_mo_layout_118 : decode c_mo_layout 118 = .ok (.imul, 1) := by decide +kernel
theorem d_mo_layout_119 : decode c_mo_layout 119 = .ok (.iload_n 2, 1) := by decide +kernel
theorem d_mo_layout_120 : decode c_mo_layout 120 = .ok (.iadd, 1) := by decide +kernel
theorem d_mo_layout_121 : decode c_mo_layout 121 = .ok (.iconst 5, 1) := by decide +kernel
theorem d_mo_layout_122 : decode c_mo_layout 122 = .ok (.isub, 1) := by decide +kernel
theorem d_mo_layout_123 : decode c_mo_layout 123 = .ok (.iaload, 1) := by decide +kernel
theorem d_mo_layout_124 : decode c_mo_layout 124 = .ok (.ireturn, 1) := by decide +kernel
theorem d_mo_lays_0 : decode c_mo_lays 0 = .ok (.iload_n 1, 1) := by decide +kernel
theorem d_mo_lays_1 : decode c_mo_lays 1 = .ok (.bipush 9, 2) := by decide +kernel
theorem d_mo_lays_3 : decode c_mo_lays 3 = .ok (.if_icmp .eq 9, 3) := by decide +kernel
theorem d_mo_lays_6 : decode c_mo_lays 6 = .ok (.iload_n 1, 1) := by decide +kernel
theorem d_mo_lays_7 : decode c_mo_lays 7 = .ok (.bipush 10, 2) := by decide +kernel
theorem d_mo_lays_9 : decode c_mo_lays 9 = .ok (.if_icmp .ne 7, 3) := by decide +kernel
theorem d_mo_lays_12 : decode c_mo_lays 12 = .ok (.iconst 1, 1) := by decide +kernel
theorem d_mo_lays_13 : decode c_mo_lays 13 = .ok (.goto 4, 3) := by decide +kernel
theorem d_mo_lays_16 : decode c_mo_lays 16 = .ok (.iconst 0, 1) := by decide +kernel
theorem d_mo_lays_17 : decode c_mo_lays 17 = .ok (.istore_n 3, 1) := by decide +kernel
theorem d_mo_lays_18 : decode c_mo_lays 18 = .ok (.iload_n 1, 1) := by decide +kernel
theorem d_mo_lays_19 : decode c_mo_lays 19 = .ok (.ifCond .lt 79, 3) := by decide +kernel
theorem d_mo_lays_22 : decode c_mo_lays 22 = .ok (.iload_n 1, 1) := by decide +kernel
theorem d_mo_lays_23 : decode c_mo_lays 23 = .ok (.bipush 12, 2) := by decide +kernel
theorem d_mo_lays_25 : decode c_mo_lays 25 = .ok (.if_icmp .gt 73, 3) := by decide +kernel
theorem d_mo_lays_28 : decode c_mo_lays 28 = .ok (.iload_n 3, 1) := by decide +kernel
theorem d_mo_lays_29 : decode c_mo_lays 29 = .ok (.ifCond .eq 14, 3) := by decide +kernel
theorem d_mo_lays_32 : decode c_mo_lays 32 = .ok (.aload_n 0, 1) := by decide +kernel
theorem d_mo_lays_33 : decode c_mo_lays 33 = .ok (.getfield 154, 3) := by decide +kernel
theorem d_mo_lays_36 : decode c_mo_lays 36 = .ok (.iconst 1, 1) := by decide +kernel
theorem d_mo_lays_37 : decode c_mo_lays 37 = .ok (.if_icmp .lt 61, 3) := by decide +kernel
theorem d_mo_lays_40 : decode c_mo_lays 40 = .ok (.goto 21, 3) := by decide +kernel
theorem d_mo_lays_43 : decode c_mo_lays 43 = .ok (.aload_n 0, 1) := by decide +kernel
theorem d_mo_lays_44 : decode c_mo_lays 44 = .ok (.getfield 154, 3) := by decide +kernel
theorem d_mo_lays_47 : decode c_mo_lays 47 = .ok (.iload_n 1, 1) := by decide +kernel
theorem d_mo_lays_48 : decode c_mo_lays 48 = .ok (.bipush 8, 2) := by decide +kernel
theorem d_mo_lays_50 : decode c_mo_lays 50 = .ok (.if_icmp .ne 7, 3) := by decide +kernel
theorem d_mo_lays_53 : decode c_mo_lays 53 = .ok (.iconst 1, 1) := by decide +kernel
theorem d_mo_lays_54 : decode c_mo_lays 54 = .ok (.goto 4, 3) := by decide +kernel
theorem d_mo_lays_57 : decode c_mo_lays 57 = .ok (.iconst 0, 1) := by decide +kernel
theorem d_mo_lays_58 : decode c_mo_lays 58 = .ok (.if_icmp .ne 40, 3) := by decide +kernel
theorem d_mo_lays_61 : decode c_mo_lays 61 = .ok (.iload_n 1, 1) := by decide +kernel
theorem d_mo_lays_62 : decode c_mo_lays 62 = .ok (.bipush 7, 2) := by decide +kernel
theorem d_mo_lays_64 : decode c_mo_lays 64 = .ok (.if_icmp .ne 15, 3) := by decide +kernel
theorem d_mo_lays_67 : decode c_mo_lays 67 = .ok (.iload_n 2, 1) := by decide +kernel
theorem d_mo_lays_68 : decode c_mo_lays 68 = .ok (.iconst 1, 1) := by decide +kernel
theorem d_mo_lays_69 : decode c_mo_lays 69 = .ok (.if_icmp .lt 29, 3) := by decide +kernel
theorem d_mo_lays_72 : decode c_mo_lays 72 = .ok (.iload_n 2, 1) := by decide +kernel
theorem d_mo_lays_73 : decode c_mo_lays 73 = .ok (.sipush 200, 3) := by decide +kernel
theorem d_mo_lays_76 : decode c_mo_lays 76 = .ok (.if_icmp .gt 22, 3) := by decide +kernel
theorem d_mo_lays_79 : decode c_mo_lays 79 = .ok (.iload_n 1, 1) := by decide +kernel
theorem d_mo_lays_80 : decode c_mo_lays 80 = .ok (.bipush 11, 2) := by decide +kernel
theorem d_mo_lays_82 : decode c_mo_lays 82 = .ok (.if_icmp .lt 12, 3) := by decide +kernel
theorem d_mo_lays_85 : decode c_mo_lays 85 = .ok (.iload_n 2, 1) := by decide +kernel
theorem d_mo_lays_86 : decode c_mo_lays 86 = .ok (.ifCond .lt 12, 3) := by decide +kernel
theorem d_mo_lays_89 : decode c_mo_lays 89 = .ok (.iload_n 2, 1) := by decide +kernel
theorem d_mo_lays_90 : decode c_mo_lays 90 = .ok (.iconst 3, 1) := by decide +kernel
theorem d_mo_lays_91 : decode c_mo_lays 91 = .ok (.if_icmp .gt 7, 3) := by decide +kernel
theorem d_mo_lays_94 : decode c_mo_lays 94 = .ok (.iconst 1, 1) := by decide +kernel
theorem d_mo_lays_95 : decode c_mo_lays 95 = .ok (.goto 4, 3) := by decide +kernel
theorem d_mo_lays_98 : decode c_mo_lays 98 = .ok (.iconst 0, 1) := by decide +kernel
theorem d_mo_lays_99 : decode c_mo_lays 99 = .ok (.istore 4, 2) := by decide +kernel
theorem d_mo_lays_101 : decode c_mo_lays 101 = .ok (.iload 4, 2) := by decide +kernel
theorem d_mo_lays_103 : decode c_mo_lays 103 = .ok (.ifCond .ne 5, 3) := by decide +kernel
theorem d_mo_lays_106 : decode c_mo_lays 106 = .ok (.iconst 0, 1) := by decide +kernel
theorem d_mo_lays_107 : decode c_mo_lays 107 = .ok (.ireturn, 1) := by decide +kernel
theorem d_mo_lays_108 : decode c_mo_lays 108 = .ok (.aload_n 0, 1) := by decide +kernel
theorem d_mo_lays_109 : decode c_mo_lays 109 = .ok (.iconst 1, 1) := by decide +kernel
theorem d_mo_lays_110 : decode c_mo_lays 110 = .ok (.putfield 160, 3) := by decide +kernel
theorem d_mo_lays_113 : decode c_mo_lays 113 = .ok (.aload_n 0, 1) := by decide +kernel
theorem d_mo_lays_114 : decode c_mo_lays 114 = .ok (.iload_n 1, 1) := by decide +kernel
theorem d_mo_lays_115 : decode c_mo_lays 115 = .ok (.bipush 6, 2) := by decide +kernel
theorem d_mo_lays_117 : decode c_mo_lays 117 = .ok (.if_icmp .eq 9, 3) := by decide +kernel
theorem d_mo_lays_120 : decode c_mo_lays 120 = .ok (.iload_n 1, 1) := by decide +kernel
theorem d_mo_lays_121 : decode c_mo_lays 121 = .ok (.bipush 8, 2) := by decide +kernel
theorem d_mo_lays_123 : decode c_mo_lays 123 = .ok (.if_icmp .ne 7, 3) := by decide +kernel
theorem d_mo_lays_126 : decode c_mo_lays 126 = .ok (.iconst 2, 1) := by decide +kernel
theorem d_mo_lays_127 : decode c_mo_lays 127 = .ok (.goto 7, 3) := by decide +kernel
theorem d_mo_lays_130 : decode c_mo_lays 130 = .ok (.iload_n 1, 1) := by decide +kernel
theorem d_mo_lays_131 : decode c_mo_lays 131 = .ok (.invokestatic 163, 3) := by decide +kernel
theorem d_mo_lays_134 : decode c_mo_lays 134 = .ok (.putfield 167, 3) := by decide +kernel
theorem d_mo_lays_137 : decode c_mo_lays 137 = .ok (.aload_n 0, 1) := by decide +kernel
theorem d_mo_lays_138 : decode c_mo_lays 138 = .ok (.iload_n 1, 1) := by decide +kernel
theorem d_mo_lays_139 : decode c_mo_lays 139 = .ok (.invokestatic 163, 3) := by decide +kernel
theorem d_mo_lays_142 : decode c_mo_lays 142 = .ok (.putfield 170, 3) := by decide +kernel
theorem d_mo_lays_145 : decode c_mo_lays 145 = .ok (.iload_n 3, 1) := by decide +kernel
theorem d_mo_lays_146 : decode c_mo_lays 146 = .ok (.ifCond .eq 68, 3) := by decide +kernel
theorem d_mo_lays_149 : decode c_mo_lays 149 = .ok (.aload_n 0, 1) := by decide +kernel
theorem d_mo_lays_150 : decode c_mo_lays 150 = .ok (.iconst 1, 1) := by decide +kernel
theorem d_mo_lays_151 : decode c_mo_lays 151 = .ok (.putfield 167, 3) := by decide +kernel
theorem d_mo_lays_154 : decode c_mo_lays 154 = .ok (.iconst 0, 1) := by decide +kernel
theorem d_mo_lays_155 : decode c_mo_lays 155 = .ok (.istore 5, 2) := by decide +kernel
theorem d_mo_lays_157 : decode c_mo_lays 157 = .ok (.iload 5, 2) := by decide +kernel
theorem d_mo_lays_159 : decode c_mo_lays 159 = .ok (.aload_n 0, 1) := by decide +kernel
theorem d_mo_lays_160 : decode c_mo_lays 160 = .ok (.getfield 154, 3) := by decide +kernel
theorem d_mo_lays_163 : decode c_mo_lays 163 = .ok (.if_icmp .ge 51, 3) := by decide +kernel
theorem d_mo_lays_166 : decode c_mo_lays 166 = .ok (.aload_n 0, 1) := by decide +kernel
theorem d_mo_lays_167 : decode c_mo_lays 167 = .ok (.aload_n 0, 1) := by decide +kernel
theorem d_mo_lays_168 : decode c_mo_lays 168 = .ok (.getfield 19, 3) := by decide +kernel
theorem d_mo_lays_171 : decode c_mo_lays 171 = .ok (.aload_n 0, 1) := by decide +kernel
theorem d_mo_lays_172 : decode c_mo_lays 172 = .ok (.getfield 34, 3) := by decide +kernel
theorem d_mo_lays_175 : decode c_mo_lays 175 = .ok (.iload 5, 2) := by decide +kernel
theorem d_mo_lays_177 : decode c_mo_lays 177 = .ok (.iaload, 1) := by decide +kernel
theorem d_mo_lays_178 : decode c_mo_lays 178 = .ok (.iaload, 1) := by decide +kernel
theorem d_mo_lays_179 : decode c_mo_lays 179 = .ok (.aload_n 0, 1) := by decide +kernel
theorem d_mo_lays_180 : decode c_mo_lays 180 = .ok (.getfield 167, 3) := by decide +kernel
theorem d_mo_lays_183 : decode c_mo_lays 183 = .ok (.if_icmp .le 18, 3) := by decide +kernel
theorem d_mo_lays_186 : decode c_mo_lays 186 = .ok (.aload_n 0, 1) := by decide +kernel
theorem d_mo_lays_187 : decode c_mo_lays 187 = .ok (.getfield 19, 3) := by decide +kernel
theorem d_mo_lays_190 : decode c_mo_lays 190 = .ok (.aload_n 0, 1) := by decide +kernel
theorem d_mo_lays_191 : decode c_mo_lays 191 = .ok (.getfield 34, 3) := by decide +kernel
theorem d_mo_lays_194 : decode c_mo_lays 194 = .ok (.iload 5, 2) := by decide +kernel
theorem d_mo_lays_196 : decode c_mo_lays 196 = .ok (.iaload, 1) := by decide +kernel
theorem d_mo_lays_197 : decode c_mo_lays 197 = .ok (.iaload, 1) := by decide +kernel
theorem d_mo_lays_198 : decode c_mo_lays 198 = .ok (.goto 7, 3) := by decide +kernel
theorem d_mo_lays_201 : decode c_mo_lays 201 = .ok (.aload_n 0, 1) := by decide +kernel
theorem d_mo_lays_202 : decode c_mo_lays 202 = .ok (.getfield 167, 3) := by decide +kernel
theorem d_mo_lays_205 : decode c_mo_lays 205 = .ok (.putfield 167, 3) := by decide +kernel
theorem d_mo_lays_208 : decode c_mo_lays 208 = .ok (.iinc 5 1, 3) := by decide +kernel
theorem d_mo_lays_211 : decode c_mo_lays 211 = .ok (.goto (-54), 3) := by decide +kernel
theorem d_mo_lays_214 : decode c_mo_lays 214 = .ok (.iconst 0, 1) := by decide +kernel
theorem d_mo_lays_215 : decode c_mo_lays 215 = .ok (.istore 5, 2) := by decide +kernel
theorem d_mo_lays_217 : decode c_mo_lays 217 = .ok (.iconst 0, 1) := by decide +kernel
theorem d_mo_lays_218 : decode c_mo_lays 218 = .ok (.istore 6, 2) := by decide +kernel
theorem d_mo_lays_220 : decode c_mo_lays 220 = .ok (.iload 6, 2) := by decide +kernel
theorem d_mo_lays_222 : decode c_mo_lays 222 = .ok (.aload_n 0, 1) := by decide +kernel
theorem d_mo_lays_223 : decode c_mo_lays 223 = .ok (.getfield 154, 3) := by decide +kernel
theorem d_mo_lays_226 : decode c_mo_lays 226 = .ok (.if_icmp .ge 135, 3) := by decide +kernel
theorem d_mo_lays_229 : decode c_mo_lays 229 = .ok (.aload_n 0, 1) := by decide +kernel
theorem d_mo_lays_230 : decode c_mo_lays 230 = .ok (.getfield 34, 3) := by decide +kernel
theorem d_mo_lays_233 : decode c_mo_lays 233 = .ok (.iload 6, 2) := by decide +kernel
theorem d_mo_lays_235 : decode c_mo_lays 235 = .ok (.iaload, 1) := by decide +kernel
theorem d_mo_lays_236 : decode c_mo_lays 236 = .ok (.istore 7, 2) := by decide +kernel
theorem d_mo_lays_238 : decode c_mo_lays 238 = .ok (.aload_n 0, 1) := by decide +kernel
theorem d_mo_lays_239 : decode c_mo_lays 239 = .ok (.aload_n 0, 1) := by decide +kernel
theorem d_mo_lays_240 : decode c_mo_lays 240 = .ok (.getfield 22, 3) := by decide +kernel
theorem d_mo_lays_243 : decode c_mo_lays 243 = .ok (.iload 7, 2) := by decide +kernel
theorem d_mo_lays_245 : decode c_mo_lays 245 = .ok (.iaload, 1) := by decide +kernel
theorem d_mo_lays_246 : decode c_mo_lays 246 = .ok (.iconst 1, 1) := by decide +kernel
theorem d_mo_lays_247 : decode c_mo_lays 247 = .ok (.iadd, 1) := by decide +kernel
theorem d_mo_lays_248 : decode c_mo_lays 248 = .ok (.aload_n 0, 1) := by decide +kernel
theorem d_mo_lays_249 : decode c_mo_lays 249 = .ok (.getfield 160, 3) := by decide +kernel
theorem d_mo_lays_252 : decode c_mo_lays 252 = .ok (.if_icmp .le 15, 3) := by decide +kernel
theorem d_mo_lays_255 : decode c_mo_lays 255 = .ok (.aload_n 0, 1) := by decide +kernel
theorem d_mo_lays_256 : decode c_mo_lays 256 = .ok (.getfield 22, 3) := by decide +kernel
theorem d_mo_lays_259 : decode c_mo_lays 259 = .ok (.iload 7, 2) := by decide +kernel
theorem d_mo_lays_261 : decode c_mo_lays 261 = .ok (.iaload, 1) := by decide +kernel
theorem d_mo_lays_262 : decode c_mo_lays 262 = .ok (.iconst 1, 1) := by decide +kernel
theorem d_mo_lays_263 : decode c_mo_lays 263 = .ok (.iadd, 1) := by decide +kernel
theorem d_mo_lays_264 : decode c_mo_lays 264 = .ok (.goto 7, 3) := by decide +kernel
theorem d_mo_lays_267 : decode c_mo_lays 267 = .ok (.aload_n 0, 1) := by decide +kernel
theorem d_mo_lays_268 : decode c_mo_lays 268 = .ok (.getfield 160, 3) := by decide +kernel
theorem d_mo_lays_271 : decode c_mo_lays 271 = .ok (.putfield 160, 3) := by decide +kernel
theorem d_mo_lays_274 : decode c_mo_lays 274 = .ok (.aload_n 0, 1) := by decide +kernel
theorem d_mo_lays_275 : decode c_mo_lays 275 = .ok (.getfield 138, 3) := by decide +kernel
theorem d_mo_lays_278 : decode c_mo_lays 278 = .ok (.iload 6, 2) := by decide +kernel
theorem d_mo_lays_280 : decode c_mo_lays 280 = .ok (.iload_n 1, 1) := by decide +kernel
theorem d_mo_lays_281 : decode c_mo_lays 281 = .ok (.bipush 9, 2) := by decide +kernel
theorem d_mo_lays_283 : decode c_mo_lays 283 = .ok (.if_icmp .ne 18, 3) := by decide +kernel
theorem d_mo_lays_286 : decode c_mo_lays 286 = .ok (.iload 5, 2) := by decide +kernel
theorem d_mo_lays_288 : decode c_mo_lays 288 = .ok (.aload_n 0, 1) := by decide +kernel
theorem d_mo_lays_289 : decode c_mo_lays 289 = .ok (.getfield 19, 3) := by decide +kernel
theorem d_mo_lays_292 : decode c_mo_lays 292 = .ok (.iload 7, 2) := by decide +kernel
theorem d_mo_lays_294 : decode c_mo_lays 294 = .ok (.iaload, 1) := by decide +kernel
theorem d_mo_lays_295 : decode c_mo_lays 295 = .ok (.invokestatic 173, 3) := by decide +kernel
theorem d_mo_lays_298 : decode c_mo_lays 298 = .ok (.goto 17, 3) := by decide +kernel
theorem d_mo_lays_301 : decode c_mo_lays 301 = .ok (.iload_n 1, 1) := by decide +kernel
theorem d_mo_lays_302 : decode c_mo_lays 302 = .ok (.bipush 10, 2) := by decide +kernel
theorem d_mo_lays_304 : decode c_mo_lays 304 = .ok (.if_icmp .ne 10, 3) := by decide +kernel
theorem d_mo_lays_307 : decode c_mo_lays 307 = .ok (.aload_n 0, 1) := by decide +kernel
theorem d_mo_lays_308 : decode c_mo_lays 308 = .ok (.getfield 167, 3) := by decide +kernel
theorem d_mo_lays_311 : decode c_mo_lays 311 = .ok (.goto 4, 3) := by decide +kernel
theorem d_mo_lays_314 : decode c_mo_lays 314 = .ok (.iconst 0, 1) := by decide +kernel
theorem d_mo_lays_315 : decode c_mo_lays 315 = .ok (.iastore, 1) := by decide +kernel
theorem d_mo_lays_316 : decode c_mo_lays 316 = .ok (.aload_n 0, 1) := by decide +kernel
theorem d_mo_lays_317 : decode c_mo_lays 317 = .ok (.getfield 138, 3) := by decide +kernel
theorem d_mo_lays_320 : decode c_mo_lays 320 = .ok (.iload 6, 2) := by decide +kernel
theorem d_mo_lays_322 : decode c_mo_lays 322 = .ok (.iaload, 1) := by decide +kernel
theorem d_mo_lays_323 : decode c_mo_lays 323 = .ok (.aload_n 0, 1) := by decide +kernel
theorem d_mo_lays_324 : decode c_mo_lays 324 = .ok (.getfield 16, 3) := by decide +kernel
theorem d_mo_lays_327 : decode c_mo_lays 327 = .ok (.iload 7, 2) := by decide +kernel
theorem d_mo_lays_329 : decode c_mo_lays 329 = .ok (.iaload, 1) := by decide +kernel
theorem d_mo_lays_330 : decode c_mo_lays 330 = .ok (.iadd, 1) := by decide +kernel
theorem d_mo_lays_331 : decode c_mo_lays 331 = .ok (.istore 8, 2) := by decide +kernel
theorem d_mo_lays_333 : decode c_mo_lays 333 = .ok (.iload_n 1, 1) := by decide +kernel
theorem d_mo_lays_334 : decode c_mo_lays 334 = .ok (.bipush 9, 2) := by decide +kernel
theorem d_mo_lays_336 : decode c_mo_lays 336 = .ok (.if_icmp .eq 10, 3) := by decide +kernel
theorem d_mo_lays_339 : decode c_mo_lays 339 = .ok (.iload 8, 2) := by decide +kernel
theorem d_mo_lays_341 : decode c_mo_lays 341 = .ok (.iload 5, 2) := by decide +kernel
theorem d_mo_lays_343 : decode c_mo_lays 343 = .ok (.if_icmp .le 8, 3) := by decide +kernel
theorem d_mo_lays_346 : decode c_mo_lays 346 = .ok (.iload 8, 2) := by decide +kernel
theorem d_mo_lays_348 : decode c_mo_lays 348 = .ok (.goto 5, 3) := by decide +kernel
theorem d_mo_lays_351 : decode c_mo_lays 351 = .ok (.iload 5, 2) := by decide +kernel
theorem d_mo_lays_353 : decode c_mo_lays 353 = .ok (.istore 5, 2) := by decide +kernel
theorem d_mo_lays_355 : decode c_mo_lays 355 = .ok (.iinc 6 1, 3) := by decide +kernel
theorem d_mo_lays_358 : decode c_mo_lays 358 = .ok (.goto (-138), 3) := by decide +kernel
theorem d_mo_lays_361 : decode c_mo_lays 361 = .ok (.aload_n 0, 1) := by decide +kernel
theorem d_mo_lays_362 : decode c_mo_lays 362 = .ok (.iload_n 3, 1) := by decide +kernel
theorem d_mo_lays_363 : decode c_mo_lays 363 = .ok (.ifCond .eq 15, 3) := by decide +kernel
theorem d_mo_lays_366 : decode c_mo_lays 366 = .ok (.iload 5, 2) := by decide +kernel
theorem d_mo_lays_368 : decode c_mo_lays 368 = .ok (.aload_n 0, 1) := by decide +kernel
theorem d_mo_lays_369 : decode c_mo_lays 369 = .ok (.getfield 167, 3) := by decide +kernel
theorem d_mo_lays_372 : decode c_mo_lays 372 = .ok (.invokestatic 173, 3) := by decide +kernel
theorem d_mo_lays_375 : decode c_mo_lays 375 = .ok (.goto 7, 3) := by decide +kernel
theorem d_mo_lays_378 : decode c_mo_lays 378 = .ok (.aload_n 0, 1) := by decide +kernel
theorem d_mo_lays_379 : decode c_mo_lays 379 = .ok (.getfield 170, 3) := by decide +kernel
theorem d_mo_lays_382 : decode c_mo_lays 382 = .ok (.putfield 170, 3) := by decide +kernel
theorem d_mo_lays_385 : decode c_mo_lays 385 = .ok (.aload_n 0, 1) := by decide +kernel
theorem d_mo_lays_386 : decode c_mo_lays 386 = .ok (.getfield 160, 3) := by decide +kernel
theorem d_mo_lays_389 : decode c_mo_lays 389 = .ok (.iconst 5, 1) := by decide +kernel
theorem d_mo_lays_390 : decode c_mo_lays 390 = .ok (.if_icmp .gt 16, 3) := by decide +kernel
theorem d_mo_lays_393 : decode c_mo_lays 393 = .ok (.aload_n 0, 1) := by decide +kernel
theorem d_mo_lays_394 : decode c_mo_lays 394 = .ok (.getfield 170, 3) := by decide +kernel
theorem d_mo_lays_397 : decode c_mo_lays 397 = .ok (.bipush 96, 2) := by decide +kernel
theorem d_mo_lays_399 : decode c_mo_lays 399 = .ok (.if_icmp .gt 7, 3) := by decide +kernel
theorem d_mo_lays_402 : decode c_mo_lays 402 = .ok (.iconst 1, 1) := by decide +kernel
theorem d_mo_lays_403 : decode c_mo_lays 403 = .ok (.goto 4, 3) := by decide +kernel
theorem d_mo_lays_406 : decode c_mo_lays 406 = .ok (.iconst 0, 1) := by decide +kernel
theorem d_mo_lays_407 : decode c_mo_lays 407 = .ok (.ireturn, 1) := by decide +kernel
theorem d_mo_type_0 : decode c_mo_type 0 = .ok (.aload_n 0, 1) := by decide +kernel
theorem d_mo_type_1 : decode c_mo_type 1 = .ok (.aload_n 0, 1) := by decide +kernel
theorem d_mo_type_2 : decode c_mo_type 2 = .ok (.iload_n 1, 1) := by decide +kernel
theorem d_mo_type_3 : decode c_mo_type 3 = .ok (.iload_n 2, 1) := by decide +kernel
theorem d_mo_type_4 : decode c_mo_type 4 = .ok (.invokevirtual 177, 3) := by decide +kernel
theorem d_mo_type_7 : decode c_mo_type 7 = .ok (.ifCond .ne 7, 3) := by decide +kernel
theorem d_mo_type_10 : decode c_mo_type 10 = .ok (.iconst 1, 1) := by decide +kernel
theorem d_mo_type_11 : decode c_mo_type 11 = .ok (.goto 17, 3) := by decide +kernel
theorem d_mo_type_14 : decode c_mo_type 14 = .ok (.aload_n 0, 1) := by decide +kernel
theorem d_mo_type_15 : decode c_mo_type 15 = .ok (.getfield 144, 3) := by decide +kernel
theorem d_mo_type_18 : decode c_mo_type 18 = .ok (.bipush 32, 2) := by decide +kernel
theorem d_mo_type_20 : decode c_mo_type 20 = .ok (.if_icmp .ne 7, 3) := by decide +kernel
theorem d_mo_type_23 : decode c_mo_type 23 = .ok (.iconst 2, 1) := by decide +kernel
theorem d_mo_type_24 : decode c_mo_type 24 = .ok (.goto 4, 3) := by decide +kernel
theorem d_mo_type_27 : decode c_mo_type 27 = .ok (.iconst 0, 1) := by decide +kernel
theorem d_mo_type_28 : decode c_mo_type 28 = .ok (.invokevirtual 157, 3) := by decide +kernel
theorem d_mo_type_31 : decode c_mo_type 31 = .ok (.ifCond .eq 5, 3) := by decide +kernel
theorem d_mo_type_34 : decode c_mo_type 34 = .ok (.iconst 0, 1) := by decide +kernel
theorem d_mo_type_35 : decode c_mo_type 35 = .ok (.ireturn, 1) := by decide +kernel
theorem d_mo_type_36 : decode c_mo_type 36 = .ok (.aload_n 0, 1) := by decide +kernel
theorem d_mo_type_37 : decode c_mo_type 37 = .ok (.getfield 144, 3) := by decide +kernel
theorem d_mo_type_40 : decode c_mo_type 40 = .ok (.istore_n 3, 1) := by decide +kernel
theorem d_mo_type_41 : decode c_mo_type 41 = .ok (.aload_n 0, 1) := by decide +kernel
theorem d_mo_type_42 : decode c_mo_type 42 = .ok (.dup, 1) := by decide +kernel
theorem d_mo_type_43 : decode c_mo_type 43 = .ok (.getfield 144, 3) := by decide +kernel
theorem d_mo_type_46 : decode c_mo_type 46 = .ok (.iconst 1, 1) := by decide +kernel
theorem d_mo_type_47 : decode c_mo_type 47 = .ok (.iadd, 1) := by decide +kernel
theorem d_mo_type_48 : decode c_mo_type 48 = .ok (.putfield 144, 3) := by decide +kernel
theorem d_mo_type_51 : decode c_mo_type 51 = .ok (.aload_n 0, 1) := by decide +kernel
theorem d_mo_type_52 : decode c_mo_type 52 = .ok (.getfield 7, 3) := by decide +kernel
theorem d_mo_type_55 : decode c_mo_type 55 = .ok (.iload_n 3, 1) := by decide +kernel
theorem d_mo_type_56 : decode c_mo_type 56 = .ok (.iload_n 1, 1) := by decide +kernel
theorem d_mo_type_57 : decode c_mo_type 57 = .ok (.iastore, 1) := by decide +kernel
theorem d_mo_type_58 : decode c_mo_type 58 = .ok (.aload_n 0, 1) := by decide +kernel
theorem d_mo_type_59 : decode c_mo_type 59 = .ok (.getfield 13, 3) := by decide +kernel
theorem d_mo_type_62 : decode c_mo_type 62 = .ok (.iload_n 3, 1) := by decide +kernel
theorem d_mo_type_63 : decode c_mo_type 63 = .ok (.iload_n 2, 1) := by decide +kernel
theorem d_mo_type_64 : decode c_mo_type 64 = .ok (.iastore, 1) := by decide +kernel
theorem d_mo_type_65 : decode c_mo_type 65 = .ok (.aload_n 0, 1) := by decide +kernel
theorem d_mo_type_66 : decode c_mo_type 66 = .ok (.getfield 16, 3) := by decide +kernel
theorem d_mo_type_69 : decode c_mo_type 69 = .ok (.iload_n 3, 1) := by decide +kernel
theorem d_mo_type_70 : decode c_mo_type 70 = .ok (.aload_n 0, 1) := by decide +kernel
theorem d_mo_type_71 : decode c_mo_type 71 = .ok (.getfield 170, 3) := by decide +kernel
theorem d_mo_type_74 : decode c_mo_type 74 = .ok (.iastore, 1) := by decide +kernel
theorem d_mo_type_75 : decode c_mo_type 75 = .ok (.aload_n 0, 1) := by decide +kernel
theorem d_mo_type_76 : decode c_mo_type 76 = .ok (.getfield 19, 3) := by decide +kernel
theorem d_mo_type_79 : decode c_mo_type 79 = .ok (.iload_n 3, 1) := by decide +kernel
theorem d_mo_type_80 : decode c_mo_type 80 = .ok (.aload_n 0, 1) := by decide +kernel
theorem d_mo_type_81 : decode c_mo_type 81 = .ok (.getfield 167, 3) := by decide +kernel
theorem d_mo_type_84 : decode c_mo_type 84 = .ok (.iastore, 1) := by decide +kernel
theorem d_mo_type_85 : decode c_mo_type 85 = .ok (.aload_n 0, 1) := by decide +kernel
theorem d_mo_type_86 : decode c_mo_type 86 = .ok (.getfield 22, 3) := by decide +kernel
theorem d_mo_type_89 : decode c_mo_type 89 = .ok (.iload_n 3, 1) := by decide +kernel
theorem d_mo_type_90 : decode c_mo_type 90 = .ok (.aload_n 0, 1) := by decide +kernel
theorem d_mo_type_91 : decode c_mo_type 91 = .ok (.getfield 160, 3) := by decide +kernel
theorem d_mo_type_94 : decode c_mo_type 94 = .ok (.iastore, 1) := by decide +kernel
theorem d_mo_type_95 : decode c_mo_type 95 = .ok (.aload_n 0, 1) := by decide +kernel
theorem d_mo_type_96 : decode c_mo_type 96 = .ok (.getfield 25, 3) := by decide +kernel
theorem d_mo_type_99 : decode c_mo_type 99 = .ok (.iload_n 3, 1) := by decide +kernel
theorem d_mo_type_100 : decode c_mo_type 100 = .ok (.aload_n 0, 1) := by decide +kernel
theorem d_mo_type_101 : decode c_mo_type 101 = .ok (.getfield 154, 3) := by decide +kernel
theorem d_mo_type_104 : decode c_mo_type 104 = .ok (.iastore, 1) := by decide +kernel
theorem d_mo_type_105 : decode c_mo_type 105 = .ok (.iconst 0, 1) := by decide +kernel
theorem d_mo_type_106 : decode c_mo_type 106 = .ok (.istore 4, 2) := by decide +kernel
theorem d_mo_type_108 : decode c_mo_type 108 = .ok (.iload 4, 2) := by decide +kernel
theorem d_mo_type_110 : decode c_mo_type 110 = .ok (.aload_n 0, 1) := by decide +kernel
theorem d_mo_type_111 : decode c_mo_type 111 = .ok (.getfield 154, 3) := by decide +kernel
theorem d_mo_type_114 : decode c_mo_type 114 = .ok (.if_icmp .ge 47, 3) := by decide +kernel
theorem d_mo_type_117 : decode c_mo_type 117 = .ok (.aload_n 0, 1) := by decide +kernel
theorem d_mo_type_118 : decode c_mo_type 118 = .ok (.getfield 28, 3) := by decide +kernel
theorem d_mo_type_121 : decode c_mo_type 121 = .ok (.bipush 6, 2) := by decide +kernel
theorem d_mo_type_123 : decode c_mo_type 123 = .ok (.iload_n 3, 1) := by decide +kernel
theorem d_mo_type_124 : decode c_mo_type 124 = .ok (.imul, 1) := by decide +kernel
theorem d_mo_type_125 : decode c_mo_type 125 = .ok (.iload 4, 2) := by decide +kernel
theorem d_mo_type_127 : decode c_mo_type 127 = .ok (.iadd, 1) := by decide +kernel
theorem d_mo_type_128 : decode c_mo_type 128 = .ok (.aload_n 0, 1) := by decide +kernel
theorem d_mo_type_129 : decode c_mo_type 129 = .ok (.getfield 34, 3) := by decide +kernel
theorem d_mo_type_132 : decode c_mo_type 132 = .ok (.iload 4, 2) := by decide +kernel
theorem d_mo_type_134 : decode c_mo_type 134 = .ok (.iaload, 1) := by decide +kernel
theorem d_mo_type_135 : decode c_mo_type 135 = .ok (.iastore, 1) := by decide +kernel
theorem d_mo_type_136 : decode c_mo_type 136 = .ok (.aload_n 0, 1) := by decide +kernel
theorem d_mo_type_137 : decode c_mo_type 137 = .ok (.getfield 31, 3) := by decide +kernel
theorem d_mo_type_140 : decode c_mo_type 140 = .ok (.bipush 6, 2) := by decide +kernel
theorem d_mo_type_142 : decode c_mo_type 142 = .ok (.iload_n 3, 1) := by decide +kernel
theorem d_mo_type_143 : decode c_mo_type 143 = .ok (.imul, 1) := by decide +kernel
theorem d_mo_type_144 : decode c_mo_type 144 = .ok (.iload 4, 2) := by decide +kernel
theorem d_mo_type_146 : decode c_mo_type 146 = .ok (.iadd, 1) := by decide +kernel
theorem d_mo_type_147 : decode c_mo_type 147 = .ok (.aload_n 0, 1) := by decide +kernel
theorem d_mo_type_148 : decode c_mo_type 148 = .ok (.getfield 138, 3) := by decide +kernel
theorem d_mo_type_151 : decode c_mo_type 151 = .ok (.iload 4, 2) := by decide +kernel
theorem d_mo_type_153 : decode c_mo_type 153 = .ok (.iaload, 1) := by decide +kernel
theorem d_mo_type_154 : decode c_mo_type 154 = .ok (.iastore, 1) := by decide +kernel
theorem d_mo_type_155 : decode c_mo_type 155 = .ok (.iinc 4 1, 3) := by decide +kernel
theorem d_mo_type_158 : decode c_mo_type 158 = .ok (.goto (-50), 3) := by decide +kernel
theorem d_mo_type_161 : decode c_mo_type 161 = .ok (.aload_n 0, 1) := by decide +kernel
theorem d_mo_type_162 : decode c_mo_type 162 = .ok (.iconst 0, 1) := by decide +kernel
theorem d_mo_type_163 : decode c_mo_type 163 = .ok (.putfield 154, 3) := by decide +kernel
theorem d_mo_type_166 : decode c_mo_type 166 = .ok (.iload_n 3, 1) := by decide +kernel
theorem d_mo_type_167 : decode c_mo_type 167 = .ok (.ireturn, 1) := by decide +kernel
theorem d_mo_fits_0 : decode c_mo_fits 0 = .ok (.aload_n 0, 1) := by decide +kernel
theorem d_mo_fits_1 : decode c_mo_fits 1 = .ok (.aload_n 0, 1) := by decide +kernel
theorem d_mo_fits_2 : decode c_mo_fits 2 = .ok (.iload_n 1, 1) := by decide +kernel
theorem d_mo_fits_3 : decode c_mo_fits 3 = .ok (.invokevirtual 150, 3) := by decide +kernel
theorem d_mo_fits_6 : decode c_mo_fits 6 = .ok (.ifCond .eq 15, 3) := by decide +kernel
theorem d_mo_fits_9 : decode c_mo_fits 9 = .ok (.aload_n 0, 1) := by decide +kernel
theorem d_mo_fits_10 : decode c_mo_fits 10 = .ok (.iload_n 2, 1) := by decide +kernel
theorem d_mo_fits_11 : decode c_mo_fits 11 = .ok (.invokevirtual 150, 3) := by decide +kernel
theorem d_mo_fits_14 : decode c_mo_fits 14 = .ok (.ifCond .eq 7, 3) := by decide +kernel
theorem d_mo_fits_17 : decode c_mo_fits 17 = .ok (.iconst 0, 1) := by decide +kernel
theorem d_mo_fits_18 : decode c_mo_fits 18 = .ok (.goto 4, 3) := by decide +kernel
theorem d_mo_fits_21 : decode c_mo_fits 21 = .ok (.iconst 1, 1) := by decide +kernel
theorem d_mo_fits_22 : decode c_mo_fits 22 = .ok (.invokevirtual 157, 3) := by decide +kernel
theorem d_mo_fits_25 : decode c_mo_fits 25 = .ok (.ifCond .eq 7, 3) := by decide +kernel
theorem d_mo_fits_28 : decode c_mo_fits 28 = .ok (.iconst 0, 1) := by decide +kernel
theorem d_mo_fits_29 : decode c_mo_fits 29 = .ok (.goto 9, 3) := by decide +kernel
theorem d_mo_fits_32 : decode c_mo_fits 32 = .ok (.aload_n 0, 1) := by decide +kernel
theorem d_mo_fits_33 : decode c_mo_fits 33 = .ok (.iload_n 1, 1) := by decide +kernel
theorem d_mo_fits_34 : decode c_mo_fits 34 = .ok (.iload_n 2, 1) := by decide +kernel
theorem d_mo_fits_35 : decode c_mo_fits 35 = .ok (.invokevirtual 194, 3) := by decide +kernel
theorem d_mo_fits_38 : decode c_mo_fits 38 = .ok (.ireturn, 1) := by decide +kernel
theorem d_mo_function_0 : decode c_mo_function 0 = .ok (.aload_n 0, 1) := by decide +kernel
theorem d_mo_function_1 : decode c_mo_function 1 = .ok (.aload_n 0, 1) := by decide +kernel
theorem d_mo_function_2 : decode c_mo_function 2 = .ok (.iload_n 1, 1) := by decide +kernel
theorem d_mo_function_3 : decode c_mo_function 3 = .ok (.invokevirtual 197, 3) := by decide +kernel
theorem d_mo_function_6 : decode c_mo_function 6 = .ok (.ifCond .eq 19, 3) := by decide +kernel
theorem d_mo_function_9 : decode c_mo_function 9 = .ok (.aload_n 0, 1) := by decide +kernel
theorem d_mo_function_10 : decode c_mo_function 10 = .ok (.iload_n 2, 1) := by decide +kernel
theorem d_mo_function_11 : decode c_mo_function 11 = .ok (.invokevirtual 150, 3) := by decide +kernel
theorem d_mo_function_14 : decode c_mo_function 14 = .ok (.ifCond .eq 11, 3) := by decide +kernel
theorem d_mo_function_17 : decode c_mo_function 17 = .ok (.aload_n 0, 1) := by decide +kernel
theorem d_mo_function_18 : decode c_mo_function 18 = .ok (.iload_n 3, 1) := by decide +kernel
theorem d_mo_function_19 : decode c_mo_function 19 = .ok (.invokevirtual 150, 3) := by decide +kernel
theorem d_mo_function_22 : decode c_mo_function 22 = .ok (.ifCond .ne 7, 3) := by decide +kernel
theorem d_mo_function_25 : decode c_mo_function 25 = .ok (.iconst 1, 1) := by decide +kernel
theorem d_mo_function_26 : decode c_mo_function 26 = .ok (.goto 29, 3) := by decide +kernel
theorem d_mo_function_29 : decode c_mo_function 29 = .ok (.aload_n 0, 1) := by decide +kernel
theorem d_mo_function_30 : decode c_mo_function 30 = .ok (.iload_n 3, 1) := by decide +kernel
theorem d_mo_function_31 : decode c_mo_function 31 = .ok (.invokevirtual 200, 3) := by decide +kernel
theorem d_mo_function_34 : decode c_mo_function 34 = .ok (.ifCond .eq 7, 3) := by decide +kernel
theorem d_mo_function_37 : decode c_mo_function 37 = .ok (.iconst 2, 1) := by decide +kernel
theorem d_mo_function_38 : decode c_mo_function 38 = .ok (.goto 17, 3) := by decide +kernel
theorem d_mo_function_41 : decode c_mo_function 41 = .ok (.aload_n 0, 1) := by decide +kernel
theorem d_mo_function_42 : decode c_mo_function 42 = .ok (.getfield 203, 3) := by decide +kernel
theorem d_mo_function_45 : decode c_mo_function 45 = .ok (.bipush 12, 2) := by decide +kernel
theorem d_mo_function_47 : decode c_mo_function 47 = .ok (.if_icmp .ne 7, 3) := by decide +kernel
theorem d_mo_function_50 : decode c_mo_function 50 = .ok (.iconst 3, 1) := by decide +kernel
theorem d_mo_function_51 : decode c_mo_function 51 = .ok (.goto 4, 3) := by decide +kernel
theorem d_mo_function_54 : decode c_mo_function 54 = .ok (.iconst 0, 1) := by decide +kernel
theorem d_mo_function_55 : decode c_mo_function 55 = .ok (.invokevirtual 157, 3) := by decide +kernel
theorem d_mo_function_58 : decode c_mo_function 58 = .ok (.ifCond .eq 5, 3) := by decide +kernel
theorem d_mo_function_61 : decode c_mo_function 61 = .ok (.iconst 0, 1) := by decide +kernel
theorem d_mo_function_62 : decode c_mo_function 62 = .ok (.ireturn, 1) := by decide +kernel
theorem d_mo_function_63 : decode c_mo_function 63 = .ok (.aload_n 0, 1) := by decide +kernel
theorem d_mo_function_64 : decode c_mo_function 64 = .ok (.getfield 71, 3) := by decide +kernel
theorem d_mo_function_67 : decode c_mo_function 67 = .ok (.aload_n 0, 1) := by decide +kernel
theorem d_mo_function_68 : decode c_mo_function 68 = .ok (.getfield 203, 3) := by decide +kernel
theorem d_mo_function_71 : decode c_mo_function 71 = .ok (.iload_n 1, 1) := by decide +kernel
theorem d_mo_function_72 : decode c_mo_function 72 = .ok (.iastore, 1) := by decide +kernel
theorem d_mo_function_73 : decode c_mo_function 73 = .ok (.aload_n 0, 1) := by decide +kernel
theorem d_mo_function_74 : decode c_mo_function 74 = .ok (.getfield 74, 3) := by decide +kernel
theorem d_mo_function_77 : decode c_mo_function 77 = .ok (.aload_n 0, 1) := by decide +kernel
theorem d_mo_function_78 : decode c_mo_function 78 = .ok (.getfield 203, 3) := by decide +kernel
theorem d_mo_function_81 : decode c_mo_function 81 = .ok (.iload_n 2, 1) := by decide +kernel
theorem d_mo_function_82 : decode c_mo_function 82 = .ok (.iastore, 1) := by decide +kernel
theorem d_mo_function_83 : decode c_mo_function 83 = .ok (.aload_n 0, 1) := by decide +kernel
theorem d_mo_function_84 : decode c_mo_function 84 = .ok (.getfield 77, 3) := by decide +kernel
theorem d_mo_function_87 : decode c_mo_function 87 = .ok (.aload_n 0, 1) := by decide +kernel
theorem d_mo_function_88 : decode c_mo_function 88 = .ok (.getfield 203, 3) := by decide +kernel
theorem d_mo_function_91 : decode c_mo_function 91 = .ok (.iload_n 3, 1) := by decide +kernel
theorem d_mo_function_92 : decode c_mo_function 92 = .ok (.iastore, 1) := by decide +kernel
theorem d_mo_function_93 : decode c_mo_function 93 = .ok (.aload_n 0, 1) := by decide +kernel
theorem d_mo_function_94 : decode c_mo_function 94 = .ok (.dup, 1) := by decide +kernel
theorem d_mo_function_95 : decode c_mo_function 95 = .ok (.getfield 203, 3) := by decide +kernel
theorem d_mo_function_98 : decode c_mo_function 98 = .ok (.iconst 1, 1) := by decide +kernel
theorem d_mo_function_99 : decode c_mo_function 99 = .ok (.iadd, 1) := by decide +kernel
theorem d_mo_function_100 : decode c_mo_function 100 = .ok (.putfield 203, 3) := by decide +kernel
theorem d_mo_function_103 : decode c_mo_function 103 = .ok (.aload_n 0, 1) := by decide +kernel
theorem d_mo_function_104 : decode c_mo_function 104 = .ok (.getfield 203, 3) := by decide +kernel
theorem d_mo_function_107 : decode c_mo_function 107 = .ok (.iconst 1, 1) := by decide +kernel
theorem d_mo_function_108 : decode c_mo_function 108 = .ok (.isub, 1) := by decide +kernel
theorem d_mo_function_109 : decode c_mo_function 109 = .ok (.ireturn, 1) := by decide +kernel
theorem d_mo_lends_0 : decode c_mo_lends 0 = .ok (.aload_n 0, 1) := by decide +kernel
theorem d_mo_lends_1 : decode c_mo_lends 1 = .ok (.iconst 0, 1) := by decide +kernel
theorem d_mo_lends_2 : decode c_mo_lends 2 = .ok (.putfield 181, 3) := by decide +kernel
theorem d_mo_lends_5 : decode c_mo_lends 5 = .ok (.aload_n 0, 1) := by decide +kernel
theorem d_mo_lends_6 : decode c_mo_lends 6 = .ok (.iload_n 1, 1) := by decide +kernel
theorem d_mo_lends_7 : decode c_mo_lends 7 = .ok (.iload_n 1, 1) := by decide +kernel
theorem d_mo_lends_8 : decode c_mo_lends 8 = .ok (.iconst 1, 1) := by decide +kernel
theorem d_mo_lends_9 : decode c_mo_lends 9 = .ok (.iconst 0, 1) := by decide +kernel
theorem d_mo_lends_10 : decode c_mo_lends 10 = .ok (.iconst 0, 1) := by decide +kernel
theorem d_mo_lends_11 : decode c_mo_lends 11 = .ok (.iconst 0, 1) := by decide +kernel
theorem d_mo_lends_12 : decode c_mo_lends 12 = .ok (.invokevirtual 184, 3) := by decide +kernel
theorem d_mo_lends_15 : decode c_mo_lends 15 = .ok (.aload_n 0, 1) := by decide +kernel
theorem d_mo_lends_16 : decode c_mo_lends 16 = .ok (.getfield 181, 3) := by decide +kernel
theorem d_mo_lends_19 : decode c_mo_lends 19 = .ok (.ifCond .le 88, 3) := by decide +kernel
theorem d_mo_lends_22 : decode c_mo_lends 22 = .ok (.aload_n 0, 1) := by decide +kernel
theorem d_mo_lends_23 : decode c_mo_lends 23 = .ok (.dup, 1) := by decide +kernel
theorem d_mo_lends_24 : decode c_mo_lends 24 = .ok (.getfield 181, 3) := by decide +kernel
theorem d_mo_lends_27 : decode c_mo_lends 27 = .ok (.iconst 1, 1) := by decide +kernel
theorem d_mo_lends_28 : decode c_mo_lends 28 = .ok (.isub, 1) := by decide +kernel
theorem d_mo_lends_29 : decode c_mo_lends 29 = .ok (.putfield 181, 3) := by decide +kernel
theorem d_mo_lends_32 : decode c_mo_lends 32 = .ok (.aload_n 0, 1) := by decide +kernel
theorem d_mo_lends_33 : decode c_mo_lends 33 = .ok (.getfield 93, 3) := by decide +kernel
theorem d_mo_lends_36 : decode c_mo_lends 36 = .ok (.aload_n 0, 1) := by decide +kernel
theorem d_mo_lends_37 : decode c_mo_lends 37 = .ok (.getfield 181, 3) := by decide +kernel
theorem d_mo_lends_40 : decode c_mo_lends 40 = .ok (.iaload, 1) := by decide +kernel
theorem d_mo_lends_41 : decode c_mo_lends 41 = .ok (.istore_n 2, 1) := by decide +kernel
theorem d_mo_lends_42 : decode c_mo_lends 42 = .ok (.aload_n 0, 1) := by decide +kernel
theorem d_mo_lends_43 : decode c_mo_lends 43 = .ok (.getfield 7, 3) := by decide +kernel
theorem d_mo_lends_46 : decode c_mo_lends 46 = .ok (.iload_n 2, 1) := by decide +kernel
theorem d_mo_lends_47 : decode c_mo_lends 47 = .ok (.iaload, 1) := by decide +kernel
theorem d_mo_lends_48 : decode c_mo_lends 48 = .ok (.bipush 12, 2) := by decide +kernel
theorem d_mo_lends_50 : decode c_mo_lends 50 = .ok (.if_icmp .ne 5, 3) := by decide +kernel
theorem d_mo_lends_53 : decode c_mo_lends 53 = .ok (.iconst 1, 1) := by decide +kernel
theorem d_mo_lends_54 : decode c_mo_lends 54 = .ok (.ireturn, 1) := by decide +kernel
theorem d_mo_lends_55 : decode c_mo_lends 55 = .ok (.aload_n 0, 1) := by decide +kernel
theorem d_mo_lends_56 : decode c_mo_lends 56 = .ok (.getfield 25, 3) := by decide +kernel
theorem d_mo_lends_59 : decode c_mo_lends 59 = .ok (.iload_n 2, 1) := by decide +kernel
theorem d_mo_lends_60 : decode c_mo_lends 60 = .ok (.iaload, 1) := by decide +kernel
theorem d_mo_lends_61 : decode c_mo_lends 61 = .ok (.iconst 1, 1) := by decide +kernel
theorem d_mo_lends_62 : decode c_mo_lends 62 = .ok (.isub, 1) := by decide +kernel
theorem d_mo_lends_63 : decode c_mo_lends 63 = .ok (.istore_n 3, 1) := by decide +kernel
theorem d_mo_lends_64 : decode c_mo_lends 64 = .ok (.iload_n 3, 1) := by decide +kernel
theorem d_mo_lends_65 : decode c_mo_lends 65 = .ok (.ifCond .lt 39, 3) := by decide +kernel
theorem d_mo_lends_68 : decode c_mo_lends 68 = .ok (.aload_n 0, 1) := by decide +kernel
theorem d_mo_lends_69 : decode c_mo_lends 69 = .ok (.aload_n 0, 1) := by decide +kernel
theorem d_mo_lends_70 : decode c_mo_lends 70 = .ok (.getfield 28, 3) := by decide +kernel
theorem d_mo_lends_73 : decode c_mo_lends 73 = .ok (.bipush 6, 2) := by decide +kernel
theorem d_mo_lends_75 : decode c_mo_lends 75 = .ok (.iload_n 2, 1) := by decide +kernel
theorem d_mo_lends_76 : decode c_mo_lends 76 = .ok (.imul, 1) := by decide +kernel
theorem d_mo_lends_77 : decode c_mo_lends 77 = .ok (.iload_n 3, 1) := by decide +kernel
theorem d_mo_lends_78 : decode c_mo_lends 78 = .ok (.iadd, 1) := by decide +kernel
theorem d_mo_lends_79 : decode c_mo_lends 79 = .ok (.iaload, 1) := by decide +kernel
theorem d_mo_lends_80 : decode c_mo_lends 80 = .ok (.aload_n 0, 1) := by decide +kernel
theorem d_mo_lends_81 : decode c_mo_lends 81 = .ok (.getfield 28, 3) := by decide +kernel
theorem d_mo_lends_84 : decode c_mo_lends 84 = .ok (.bipush 6, 2) := by decide +kernel
theorem d_mo_lends_86 : decode c_mo_lends 86 = .ok (.iload_n 2, 1) := by decide +kernel
theorem d_mo_lends_87 : decode c_mo_lends 87 = .ok (.imul, 1) := by decide +kernel
theorem d_mo_lends_88 : decode c_mo_lends 88 = .ok (.iload_n 3, 1) := by decide +kernel
theorem d_mo_lends_89 : decode c_mo_lends 89 = .ok (.iadd, 1) := by decide +kernel
theorem d_mo_lends_90 : decode c_mo_lends 90 = .ok (.iaload, 1) := by decide +kernel
theorem d_mo_lends_91 : decode c_mo_lends 91 = .ok (.iconst 1, 1) := by decide +kernel
theorem d_mo_lends_92 : decode c_mo_lends 92 = .ok (.iconst 0, 1) := by decide +kernel
theorem d_mo_lends_93 : decode c_mo_lends 93 = .ok (.iconst 0, 1) := by decide +kernel
theorem d_mo_lends_94 : decode c_mo_lends 94 = .ok (.iconst 0, 1) := by decide +kernel
theorem d_mo_lends_95 : decode c_mo_lends 95 = .ok (.invokevirtual 184, 3) := by decide +kernel
theorem d_mo_lends_98 : decode c_mo_lends 98 = .ok (.iinc 3 (-1), 3) := by decide +kernel
theorem d_mo_lends_101 : decode c_mo_lends 101 = .ok (.goto (-37), 3) := by decide +kernel
theorem d_mo_lends_104 : decode c_mo_lends 104 = .ok (.goto (-89), 3) := by decide +kernel
theorem d_mo_lends_107 : decode c_mo_lends 107 = .ok (.iconst 0, 1) := by decide +kernel
theorem d_mo_lends_108 : decode c_mo_lends 108 = .ok (.ireturn, 1) := by decide +kernel
theorem d_mo_misfit_0 : decode c_mo_misfit 0 = .ok (.aload_n 0, 1) := by decide +kernel
theorem d_mo_misfit_1 : decode c_mo_misfit 1 = .ok (.iconst 0, 1) := by decide +kernel
theorem d_mo_misfit_2 : decode c_mo_misfit 2 = .ok (.putfield 181, 3) := by decide +kernel
theorem d_mo_misfit_5 : decode c_mo_misfit 5 = .ok (.aload_n 0, 1) := by decide +kernel
theorem d_mo_misfit_6 : decode c_mo_misfit 6 = .ok (.iload_n 1, 1) := by decide +kernel
theorem d_mo_misfit_7 : decode c_mo_misfit 7 = .ok (.iload_n 2, 1) := by decide +kernel
theorem d_mo_misfit_8 : decode c_mo_misfit 8 = .ok (.iconst 1, 1) := by decide +kernel
theorem d_mo_misfit_9 : decode c_mo_misfit 9 = .ok (.iconst 0, 1) := by decide +kernel
theorem d_mo_misfit_10 : decode c_mo_misfit 10 = .ok (.iconst 0, 1) := by decide +kernel
theorem d_mo_misfit_11 : decode c_mo_misfit 11 = .ok (.iconst 0, 1) := by decide +kernel
theorem d_mo_misfit_12 : decode c_mo_misfit 12 = .ok (.invokevirtual 184, 3) := by decide +kernel
theorem d_mo_misfit_15 : decode c_mo_misfit 15 = .ok (.iconst 0, 1) := by decide +kernel
theorem d_mo_misfit_16 : decode c_mo_misfit 16 = .ok (.istore_n 3, 1) := by decide +kernel
theorem d_mo_misfit_17 : decode c_mo_misfit 17 = .ok (.aload_n 0, 1) := by decide +kernel
theorem d_mo_misfit_18 : decode c_mo_misfit 18 = .ok (.getfield 181, 3) := by decide +kernel
theorem d_mo_misfit_21 : decode c_mo_misfit 21 = .ok (.ifCond .le 111, 3) := by decide +kernel
theorem d_mo_misfit_24 : decode c_mo_misfit 24 = .ok (.aload_n 0, 1) := by decide +kernel
theorem d_mo_misfit_25 : decode c_mo_misfit 25 = .ok (.dup, 1) := by decide +kernel
theorem d_mo_misfit_26 : decode c_mo_misfit 26 = .ok (.getfield 181, 3) := by decide +kernel
theorem d_mo_misfit_29 : decode c_mo_misfit 29 = .ok (.iconst 1, 1) := by decide +kernel
theorem d_mo_misfit_30 : decode c_mo_misfit 30 = .ok (.isub, 1) := by decide +kernel
theorem d_mo_misfit_31 : decode c_mo_misfit 31 = .ok (.putfield 181, 3) := by decide +kernel
theorem d_mo_misfit_34 : decode c_mo_misfit 34 = .ok (.aload_n 0, 1) := by decide +kernel
theorem d_mo_misfit_35 : decode c_mo_misfit 35 = .ok (.getfield 93, 3) := by decide +kernel
theorem d_mo_misfit_38 : decode c_mo_misfit 38 = .ok (.aload_n 0, 1) := by decide +kernel
theorem d_mo_misfit_39 : decode c_mo_misfit 39 = .ok (.getfield 181, 3) := by decide +kernel
theorem d_mo_misfit_42 : decode c_mo_misfit 42 = .ok (.iaload, 1) := by decide +kernel
theorem d_mo_misfit_43 : decode c_mo_misfit 43 = .ok (.istore 4, 2) := by decide +kernel
theorem d_mo_misfit_45 : decode c_mo_misfit 45 = .ok (.aload_n 0, 1) := by decide +kernel
theorem d_mo_misfit_46 : decode c_mo_misfit 46 = .ok (.getfield 96, 3) := by decide +kernel
theorem d_mo_misfit_49 : decode c_mo_misfit 49 = .ok (.aload_n 0, 1) := by decide +kernel
theorem d_mo_misfit_50 : decode c_mo_misfit 50 = .ok (.getfield 181, 3) := by decide +kernel
theorem d_mo_misfit_53 : decode c_mo_misfit 53 = .ok (.iaload, 1) := by decide +kernel
theorem d_mo_misfit_54 : decode c_mo_misfit 54 = .ok (.istore 5, 2) := by decide +kernel
theorem d_mo_misfit_56 : decode c_mo_misfit 56 = .ok (.iinc 3 1, 3) := by decide +kernel
theorem d_mo_misfit_59 : decode c_mo_misfit 59 = .ok (.aload_n 0, 1) := by decide +kernel
theorem d_mo_misfit_60 : decode c_mo_misfit 60 = .ok (.iload 4, 2) := by decide +kernel
theorem d_mo_misfit_62 : decode c_mo_misfit 62 = .ok (.iload 5, 2) := by decide +kernel
theorem d_mo_misfit_64 : decode c_mo_misfit 64 = .ok (.invokevirtual 188, 3) := by decide +kernel
theorem d_mo_misfit_67 : decode c_mo_misfit 67 = .ok (.ifCond .ne 5, 3) := by decide +kernel
theorem d_mo_misfit_70 : decode c_mo_misfit 70 = .ok (.iload_n 3, 1) := by decide +kernel
theorem d_mo_misfit_71 : decode c_mo_misfit 71 = .ok (.ireturn, 1) := by decide +kernel
theorem d_mo_misfit_72 : decode c_mo_misfit 72 = .ok (.aload_n 0, 1) := by decide +kernel
theorem d_mo_misfit_73 : decode c_mo_misfit 73 = .ok (.iload 4, 2) := by decide +kernel
theorem d_mo_misfit_75 : decode c_mo_misfit 75 = .ok (.iload 5, 2) := by decide +kernel
theorem d_mo_misfit_77 : decode c_mo_misfit 77 = .ok (.invokevirtual 191, 3) := by decide +kernel
theorem d_mo_misfit_80 : decode c_mo_misfit 80 = .ok (.iconst 1, 1) := by decide +kernel
theorem d_mo_misfit_81 : decode c_mo_misfit 81 = .ok (.isub, 1) := by decide +kernel
theorem d_mo_misfit_82 : decode c_mo_misfit 82 = .ok (.istore 6, 2) := by decide +kernel
theorem d_mo_misfit_84 : decode c_mo_misfit 84 = .ok (.iload 6, 2) := by decide +kernel
theorem d_mo_misfit_86 : decode c_mo_misfit 86 = .ok (.ifCond .lt 43, 3) := by decide +kernel
theorem d_mo_misfit_89 : decode c_mo_misfit 89 = .ok (.aload_n 0, 1) := by decide +kernel
theorem d_mo_misfit_90 : decode c_mo_misfit 90 = .ok (.aload_n 0, 1) := by decide +kernel
theorem d_mo_misfit_91 : decode c_mo_misfit 91 = .ok (.getfield 28, 3) := by decide +kernel
theorem d_mo_misfit_94 : decode c_mo_misfit 94 = .ok (.bipush 6, 2) := by decide +kernel
theorem d_mo_misfit_96 : decode c_mo_misfit 96 = .ok (.iload 4, 2) := by decide +kernel
theorem d_mo_misfit_98 : decode c_mo_misfit 98 = .ok (.imul, 1) := by decide +kernel
theorem d_mo_misfit_99 : decode c_mo_misfit 99 = .ok (.iload 6, 2) := by decide +kernel
theorem d_mo_misfit_101 : decode c_mo_misfit 101 = .ok (.iadd, 1) := by decide +kernel
theorem d_mo_misfit_102 : decode c_mo_misfit 102 = .ok (.iaload, 1) := by decide +kernel
theorem d_mo_misfit_103 : decode c_mo_misfit 103 = .ok (.aload_n 0, 1) := by decide +kernel
theorem d_mo_misfit_104 : decode c_mo_misfit 104 = .ok (.getfield 28, 3) := by decide +kernel
theorem d_mo_misfit_107 : decode c_mo_misfit 107 = .ok (.bipush 6, 2) := by decide +kernel
theorem d_mo_misfit_109 : decode c_mo_misfit 109 = .ok (.iload 5, 2) := by decide +kernel
theorem d_mo_misfit_111 : decode c_mo_misfit 111 = .ok (.imul, 1) := by decide +kernel
theorem d_mo_misfit_112 : decode c_mo_misfit 112 = .ok (.iload 6, 2) := by decide +kernel
theorem d_mo_misfit_114 : decode c_mo_misfit 114 = .ok (.iadd, 1) := by decide +kernel
theorem d_mo_misfit_115 : decode c_mo_misfit 115 = .ok (.iaload, 1) := by decide +kernel
theorem d_mo_misfit_116 : decode c_mo_misfit 116 = .ok (.iconst 1, 1) := by decide +kernel
theorem d_mo_misfit_117 : decode c_mo_misfit 117 = .ok (.iconst 0, 1) := by decide +kernel
theorem d_mo_misfit_118 : decode c_mo_misfit 118 = .ok (.iconst 0, 1) := by decide +kernel
theorem d_mo_misfit_119 : decode c_mo_misfit 119 = .ok (.iconst 0, 1) := by decide +kernel
theorem d_mo_misfit_120 : decode c_mo_misfit 120 = .ok (.invokevirtual 184, 3) := by decide +kernel
theorem d_mo_misfit_123 : decode c_mo_misfit 123 = .ok (.iinc 6 (-1), 3) := by decide +kernel
theorem d_mo_misfit_126 : decode c_mo_misfit 126 = .ok (.goto (-42), 3) := by decide +kernel
theorem d_mo_misfit_129 : decode c_mo_misfit 129 = .ok (.goto (-112), 3) := by decide +kernel
theorem d_mo_misfit_132 : decode c_mo_misfit 132 = .ok (.iconst 0, 1) := by decide +kernel
theorem d_mo_misfit_133 : decode c_mo_misfit 133 = .ok (.ireturn, 1) := by decide +kernel
