theorem d_mo_readText_0 : decode c_mo_readText 0 = .ok (.iconst 0, 1) := by decide +kernel
theorem d_mo_readText_1 : decode c_mo_readText 1 = .ok (.istore 4, 2) := by decide +kernel
theorem d_mo_readText_3 : decode c_mo_readText 3 = .ok (.iload 4, 2) := by decide +kernel
theorem d_mo_readText_5 : decode c_mo_readText 5 = .ok (.iload_n 3, 1) := by decide +kernel
theorem d_mo_readText_6 : decode c_mo_readText 6 = .ok (.if_icmp .ge 293, 3) := by decide +kernel
theorem d_mo_readText_9 : decode c_mo_readText 9 = .ok (.aload_n 0, 1) := by decide +kernel
theorem d_mo_readText_10 : decode c_mo_readText 10 = .ok (.getfield 224, 3) := by decide +kernel
theorem d_mo_readText_13 : decode c_mo_readText 13 = .ok (.ifCond .ne 286, 3) := by decide +kernel
theorem d_mo_readText_16 : decode c_mo_readText 16 = .ok (.aload_n 0, 1) := by decide +kernel
theorem d_mo_readText_17 : decode c_mo_readText 17 = .ok (.iload_n 1, 1) := by decide +kernel
theorem d_mo_readText_18 : decode c_mo_readText 18 = .ok (.iload_n 2, 1) := by decide +kernel
theorem d_mo_readText_19 : decode c_mo_readText 19 = .ok (.iload 4, 2) := by decide +kernel
theorem d_mo_readText_21 : decode c_mo_readText 21 = .ok (.iadd, 1) := by decide +kernel
theorem d_mo_readText_22 : decode c_mo_readText 22 = .ok (.invokevirtual 234, 3) := by decide +kernel
theorem d_mo_readText_25 : decode c_mo_readText 25 = .ok (.istore 5, 2) := by decide +kernel
theorem d_mo_readText_27 : decode c_mo_readText 27 = .ok (.iload 5, 2) := by decide +kernel
theorem d_mo_readText_29 : decode c_mo_readText 29 = .ok (.sipush 128, 3) := by decide +kernel
theorem d_mo_readText_32 : decode c_mo_readText 32 = .ok (.if_icmp .ge 7, 3) := by decide +kernel
theorem d_mo_readText_35 : decode c_mo_readText 35 = .ok (.iconst 0, 1) := by decide +kernel
theorem d_mo_readText_36 : decode c_mo_readText 36 = .ok (.goto 64, 3) := by decide +kernel
theorem d_mo_readText_39 : decode c_mo_readText 39 = .ok (.iload 5, 2) := by decide +kernel
theorem d_mo_readText_41 : decode c_mo_readText 41 = .ok (.sipush 194, 3) := by decide +kernel
theorem d_mo_readText_44 : decode c_mo_readText 44 = .ok (.if_icmp .lt 15, 3) := by decide +kernel
theorem d_mo_readText_47 : decode c_mo_readText 47 = .ok (.iload 5, 2) := by decide +kernel
theorem d_mo_readText_49 : decode c_mo_readText 49 = .ok (.sipush 223, 3) := by decide +kernel
theorem d_mo_readText_52 : decode c_mo_readText 52 = .ok (.if_icmp .gt 7, 3) := by decide +kernel
theorem d_mo_readText_55 : decode c_mo_readText 55 = .ok (.iconst 1, 1) := by decide +kernel
theorem d_mo_readText_56 : decode c_mo_readText 56 = .ok (.goto 44, 3) := by decide +kernel
theorem d_mo_readText_59 : decode c_mo_readText 59 = .ok (.iload 5, 2) := by decide +kernel
theorem d_mo_readText_61 : decode c_mo_readText 61 = .ok (.sipush 224, 3) := by decide +kernel
theorem d_mo_readText_64 : decode c_mo_readText 64 = .ok (.if_icmp .lt 15, 3) := by decide +kernel
theorem d_mo_readText_67 : decode c_mo_readText 67 = .ok (.iload 5, 2) := by decide +kernel
theorem d_mo_readText_69 : decode c_mo_readText 69 = .ok (.sipush 239, 3) := by decide +kernel
theorem d_mo_readText_72 : decode c_mo_readText 72 = .ok (.if_icmp .gt 7, 3) := by decide +kernel
theorem d_mo_readText_75 : decode c_mo_readText 75 = .ok (.iconst 2, 1) := by decide +kernel
theorem d_mo_readText_76 : decode c_mo_readText 76 = .ok (.goto 24, 3) := by decide +kernel
theorem d_mo_readText_79 : decode c_mo_readText 79 = .ok (.iload 5, 2) := by decide +kernel
theorem d_mo_readText_81 : decode c_mo_readText 81 = .ok (.sipush 240, 3) := by decide +kernel
theorem d_mo_readText_84 : decode c_mo_readText 84 = .ok (.if_icmp .lt 15, 3) := by decide +kernel
theorem d_mo_readText_87 : decode c_mo_readText 87 = .ok (.iload 5, 2) := by decide +kernel
theorem d_mo_readText_89 : decode c_mo_readText 89 = .ok (.sipush 244, 3) := by decide +kernel
theorem d_mo_readText_92 : decode c_mo_readText 92 = .ok (.if_icmp .gt 7, 3) := by decide +kernel
theorem d_mo_readText_95 : decode c_mo_readText 95 = .ok (.iconst 3, 1) := by decide +kernel
theorem d_mo_readText_96 : decode c_mo_readText 96 = .ok (.goto 4, 3) := by decide +kernel
theorem d_mo_readText_99 : decode c_mo_readText 99 = .ok (.iconst (-1), 1) := by decide +kernel
theorem d_mo_readText_100 : decode c_mo_readText 100 = .ok (.istore 6, 2) := by decide +kernel
theorem d_mo_readText_102 : decode c_mo_readText 102 = .ok (.iload 6, 2) := by decide +kernel
theorem d_mo_readText_104 : decode c_mo_readText 104 = .ok (.ifCond .ge 12, 3) := by decide +kernel
theorem d_mo_readText_107 : decode c_mo_readText 107 = .ok (.aload_n 0, 1) := by decide +kernel
theorem d_mo_readText_108 : decode c_mo_readText 108 = .ok (.iconst 4, 1) := by decide +kernel
theorem d_mo_readText_109 : decode c_mo_readText 109 = .ok (.iload_n 2, 1) := by decide +kernel
theorem d_mo_readText_110 : decode c_mo_readText 110 = .ok (.iload 4, 2) := by decide +kernel
theorem d_mo_readText_112 : decode c_mo_readText 112 = .ok (.iadd, 1) := by decide +kernel
theorem d_mo_readText_113 : decode c_mo_readText 113 = .ok (.invokevirtual 230, 3) := by decide +kernel
theorem d_mo_readText_116 : decode c_mo_readText 116 = .ok (.iconst 1, 1) := by decide +kernel
theorem d_mo_readText_117 : decode c_mo_readText 117 = .ok (.istore 7, 2) := by decide +kernel
theorem d_mo_readText_119 : decode c_mo_readText 119 = .ok (.iload 7, 2) := by decide +kernel
theorem d_mo_readText_121 : decode c_mo_readText 121 = .ok (.iload 6, 2) := by decide +kernel
theorem d_mo_readText_123 : decode c_mo_readText 123 = .ok (.if_icmp .gt 164, 3) := by decide +kernel
theorem d_mo_readText_126 : decode c_mo_readText 126 = .ok (.aload_n 0, 1) := by decide +kernel
theorem d_mo_readText_127 : decode c_mo_readText 127 = .ok (.getfield 224, 3) := by decide +kernel
theorem d_mo_readText_130 : decode c_mo_readText 130 = .ok (.ifCond .ne 157, 3) := by decide +kernel
theorem d_mo_readText_133 : decode c_mo_readText 133 = .ok (.iload 4, 2) := by decide +kernel
theorem d_mo_readText_135 : decode c_mo_readText 135 = .ok (.iload 7, 2) := by decide +kernel
theorem d_mo_readText_137 : decode c_mo_readText 137 = .ok (.iadd, 1) := by decide +kernel
theorem d_mo_readText_138 : decode c_mo_readText 138 = .ok (.iload_n 3, 1) := by decide +kernel
theorem d_mo_readText_139 : decode c_mo_readText 139 = .ok (.if_icmp .ne 15, 3) := by decide +kernel
theorem d_mo_readText_142 : decode c_mo_readText 142 = .ok (.aload_n 0, 1) := by decide +kernel
theorem d_mo_readText_143 : decode c_mo_readText 143 = .ok (.iconst 4, 1) := by decide +kernel
theorem d_mo_readText_144 : decode c_mo_readText 144 = .ok (.iload_n 2, 1) := by decide +kernel
theorem d_mo_readText_145 : decode c_mo_readText 145 = .ok (.iload 4, 2) := by decide +kernel
theorem d_mo_readText_147 : decode c_mo_readText 147 = .ok (.iadd, 1) := by decide +kernel
theorem d_mo_readText_148 : decode c_mo_readText 148 = .ok (.invokevirtual 230, 3) := by decide +kernel
theorem d_mo_readText_151 : decode c_mo_readText 151 = .ok (.goto 130, 3) := by decide +kernel
theorem d_mo_readText_154 : decode c_mo_readText 154 = .ok (.iload 7, 2) := by decide +kernel
theorem d_mo_readText_156 : decode c_mo_readText 156 = .ok (.iconst 1, 1) := by decide +kernel
theorem d_mo_readText_157 : decode c_mo_readText 157 = .ok (.if_icmp .le 9, 3) := by decide +kernel
theorem d_mo_readText_160 : decode c_mo_readText 160 = .ok (.sipush 128, 3) := by decide +kernel
theorem d_mo_readText_163 : decode c_mo_readText 163 = .ok (.goto 34, 3) := by decide +kernel
theorem d_mo_readText_166 : decode c_mo_readText 166 = .ok (.iload 5, 2) := by decide +kernel
theorem d_mo_readText_168 : decode c_mo_readText 168 = .ok (.sipush 224, 3) := by decide +kernel
theorem d_mo_readText_171 : decode c_mo_readText 171 = .ok (.if_icmp .ne 9, 3) := by decide +kernel
theorem d_mo_readText_174 : decode c_mo_readText 174 = .ok (.sipush 160, 3) := by decide +kernel
theorem d_mo_readText_177 : decode c_mo_readText 177 = .ok (.goto 20, 3) := by decide +kernel
theorem d_mo_readText_180 : decode c_mo_readText 180 = .ok (.iload 5, 2) := by decide +kernel
theorem d_mo_readText_182 : decode c_mo_readText 182 = .ok (.sipush 240, 3) := by decide +kernel
theorem d_mo_readText_185 : decode c_mo_readText 185 = .ok (.if_icmp .ne 9, 3) := by decide +kernel
theorem d_mo_readText_188 : decode c_mo_readText 188 = .ok (.sipush 144, 3) := by decide +kernel
theorem d_mo_readText_191 : decode c_mo_readText 191 = .ok (.goto 6, 3) := by decide +kernel
theorem d_mo_readText_194 : decode c_mo_readText 194 = .ok (.sipush 128, 3) := by decide +kernel
theorem d_mo_readText_197 : decode c_mo_readText 197 = .ok (.istore 8, 2) := by decide +kernel
theorem d_mo_readText_199 : decode c_mo_readText 199 = .ok (.iload 7, 2) := by decide +kernel
theorem d_mo_readText_201 : decode c_mo_readText 201 = .ok (.iconst 1, 1) := by decide +kernel
theorem d_mo_readText_202 : decode c_mo_readText 202 = .ok (.if_icmp .le 9, 3) := by decide +kernel
theorem d_mo_readText_205 : decode c_mo_readText 205 = .ok (.sipush 191, 3) := by decide +kernel
theorem d_mo_readText_208 : decode c_mo_readText 208 = .ok (.goto 34, 3) := by decide +kernel
theorem d_mo_readText_211 : decode c_mo_readText 211 = .ok (.iload 5, 2) := by decide +kernel
theorem d_mo_readText_213 : decode c_mo_readText 213 = .ok (.sipush 237, 3) := by decide +kernel
theorem d_mo_readText_216 : decode c_mo_readText 216 = .ok (.if_icmp .ne 9, 3) := by decide +kernel
theorem d_mo_readText_219 : decode c_mo_readText 219 = .ok (.sipush 159, 3) := by decide +kernel
theorem d_mo_readText_222 : decode c_mo_readText 222 = .ok (.goto 20, 3) := by decide +kernel
theorem d_mo_readText_225 : decode c_mo_readText 225 = .ok (.iload 5, 2) := by decide +kernel
theorem d_mo_readText_227 : decode c_mo_readText 227 = .ok (.sipush 244, 3) := by decide +kernel
theorem d_mo_readText_230 : decode c_mo_readText 230 = .ok (.if_icmp .ne 9, 3) := by decide +kernel
theorem d_mo_readText_233 : decode c_mo_readText 233 = .ok (.sipush 143, 3) := by decide +kernel
theorem d_mo_readText_236 : decode c_mo_readText 236 = .ok (.goto 6, 3) := by decide +kernel
theorem d_mo_readText_239 : decode c_mo_readText 239 = .ok (.sipush 191, 3) := by decide +kernel
theorem d_mo_readText_242 : decode c_mo_readText 242 = .ok (.istore 9, 2) := by decide +kernel
theorem d_mo_readText_244 : decode c_mo_readText 244 = .ok (.aload_n 0, 1) := by decide +kernel
theorem d_mo_readText_245 : decode c_mo_readText 245 = .ok (.iload_n 1, 1) := by decide +kernel
theorem d_mo_readText_246 : decode c_mo_readText 246 = .ok (.iload_n 2, 1) := by decide +kernel
theorem d_mo_readText_247 : decode c_mo_readText 247 = .ok (.iload 4, 2) := by decide +kernel
theorem d_mo_readText_249 : decode c_mo_readText 249 = .ok (.iadd, 1) := by decide +kernel
theorem d_mo_readText_250 : decode c_mo_readText 250 = .ok (.iload 7, 2) := by decide +kernel
theorem d_mo_readText_252 : decode c_mo_readText 252 = .ok (.iadd, 1) := by decide +kernel
theorem d_mo_readText_253 : decode c_mo_readText 253 = .ok (.invokevirtual 234, 3) := by decide +kernel
theorem d_mo_readText_256 : decode c_mo_readText 256 = .ok (.istore 10, 2) := by decide +kernel
theorem d_mo_readText_258 : decode c_mo_readText 258 = .ok (.iload 10, 2) := by decide +kernel
theorem d_mo_readText_260 : decode c_mo_readText 260 = .ok (.iload 8, 2) := by decide +kernel
theorem d_mo_readText_262 : decode c_mo_readText 262 = .ok (.if_icmp .lt 10, 3) := by decide +kernel
theorem d_mo_readText_265 : decode c_mo_readText 265 = .ok (.iload 10, 2) := by decide +kernel
theorem d_mo_readText_267 : decode c_mo_readText 267 = .ok (.iload 9, 2) := by decide +kernel
theorem d_mo_readText_269 : decode c_mo_readText 269 = .ok (.if_icmp .le 12, 3) := by decide +kernel
theorem d_mo_readText_272 : decode c_mo_readText 272 = .ok (.aload_n 0, 1) := by decide +kernel
theorem d_mo_readText_273 : decode c_mo_readText 273 = .ok (.iconst 4, 1) := by decide +kernel
theorem d_mo_readText_274 : decode c_mo_readText 274 = .ok (.iload_n 2, 1) := by decide +kernel
theorem d_mo_readText_275 : decode c_mo_readText 275 = .ok (.iload 4, 2) := by decide +kernel
theorem d_mo_readText_277 : decode c_mo_readText 277 = .ok (.iadd, 1) := by decide +kernel
theorem d_mo_readText_278 : decode c_mo_readText 278 = .ok (.invokevirtual 230, 3) := by decide +kernel
theorem d_mo_readText_281 : decode c_mo_readText 281 = .ok (.iinc 7 1, 3) := by decide +kernel
theorem d_mo_readText_284 : decode c_mo_readText 284 = .ok (.goto (-165), 3) := by decide +kernel
theorem d_mo_readText_287 : decode c_mo_readText 287 = .ok (.iload 4, 2) := by decide +kernel
theorem d_mo_readText_289 : decode c_mo_readText 289 = .ok (.iload 6, 2) := by decide +kernel
theorem d_mo_readText_291 : decode c_mo_readText 291 = .ok (.iadd, 1) := by decide +kernel
theorem d_mo_readText_292 : decode c_mo_readText 292 = .ok (.iconst 1, 1) := by decide +kernel
theorem d_mo_readText_293 : decode c_mo_readText 293 = .ok (.iadd, 1) := by decide +kernel
theorem d_mo_readText_294 : decode c_mo_readText 294 = .ok (.istore 4, 2) := by decide +kernel
theorem d_mo_readText_296 : decode c_mo_readText 296 = .ok (.goto (-293), 3) := by decide +kernel
theorem d_mo_readText_299 : decode c_mo_readText 299 = .ok (.return_, 1) := by decide +kernel
