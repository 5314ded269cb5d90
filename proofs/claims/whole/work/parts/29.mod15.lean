theorem d_mo_writeItem_0 : decode c_mo_writeItem 0 = .ok (.aload_n 0, 1) := by decide +kernel
theorem d_mo_writeItem_1 : decode c_mo_writeItem 1 = .ok (.getfield 111, 3) := by decide +kernel
theorem d_mo_writeItem_4 : decode c_mo_writeItem 4 = .ok (.iload_n 3, 1) := by decide +kernel
theorem d_mo_writeItem_5 : decode c_mo_writeItem 5 = .ok (.iaload, 1) := by decide +kernel
theorem d_mo_writeItem_6 : decode c_mo_writeItem 6 = .ok (.istore 4, 2) := by decide +kernel
theorem d_mo_writeItem_8 : decode c_mo_writeItem 8 = .ok (.aload_n 0, 1) := by decide +kernel
theorem d_mo_writeItem_9 : decode c_mo_writeItem 9 = .ok (.getfield 7, 3) := by decide +kernel
theorem d_mo_writeItem_12 : decode c_mo_writeItem 12 = .ok (.iload 4, 2) := by decide +kernel
theorem d_mo_writeItem_14 : decode c_mo_writeItem 14 = .ok (.iaload, 1) := by decide +kernel
theorem d_mo_writeItem_15 : decode c_mo_writeItem 15 = .ok (.istore 5, 2) := by decide +kernel
theorem d_mo_writeItem_17 : decode c_mo_writeItem 17 = .ok (.aload_n 0, 1) := by decide +kernel
theorem d_mo_writeItem_18 : decode c_mo_writeItem 18 = .ok (.getfield 117, 3) := by decide +kernel
theorem d_mo_writeItem_21 : decode c_mo_writeItem 21 = .ok (.iload_n 3, 1) := by decide +kernel
theorem d_mo_writeItem_22 : decode c_mo_writeItem 22 = .ok (.iaload, 1) := by decide +kernel
theorem d_mo_writeItem_23 : decode c_mo_writeItem 23 = .ok (.istore 6, 2) := by decide +kernel
theorem d_mo_writeItem_25 : decode c_mo_writeItem 25 = .ok (.iload 6, 2) := by decide +kernel
theorem d_mo_writeItem_27 : decode c_mo_writeItem 27 = .ok (.ifCond .lt 50, 3) := by decide +kernel
theorem d_mo_writeItem_30 : decode c_mo_writeItem 30 = .ok (.aload_n 0, 1) := by decide +kernel
theorem d_mo_writeItem_31 : decode c_mo_writeItem 31 = .ok (.getfield 129, 3) := by decide +kernel
theorem d_mo_writeItem_34 : decode c_mo_writeItem 34 = .ok (.iload_n 3, 1) := by decide +kernel
theorem d_mo_writeItem_35 : decode c_mo_writeItem 35 = .ok (.aload_n 0, 1) := by decide +kernel
theorem d_mo_writeItem_36 : decode c_mo_writeItem 36 = .ok (.getfield 7, 3) := by decide +kernel
theorem d_mo_writeItem_39 : decode c_mo_writeItem 39 = .ok (.aload_n 0, 1) := by decide +kernel
theorem d_mo_writeItem_40 : decode c_mo_writeItem 40 = .ok (.getfield 111, 3) := by decide +kernel
theorem d_mo_writeItem_43 : decode c_mo_writeItem 43 = .ok (.iload 6, 2) := by decide +kernel
theorem d_mo_writeItem_45 : decode c_mo_writeItem 45 = .ok (.iaload, 1) := by decide +kernel
theorem d_mo_writeItem_46 : decode c_mo_writeItem 46 = .ok (.iaload, 1) := by decide +kernel
theorem d_mo_writeItem_47 : decode c_mo_writeItem 47 = .ok (.bipush 8, 2) := by decide +kernel
theorem d_mo_writeItem_49 : decode c_mo_writeItem 49 = .ok (.if_icmp .ne 13, 3) := by decide +kernel
theorem d_mo_writeItem_52 : decode c_mo_writeItem 52 = .ok (.aload_n 0, 1) := by decide +kernel
theorem d_mo_writeItem_53 : decode c_mo_writeItem 53 = .ok (.getfield 132, 3) := by decide +kernel
theorem d_mo_writeItem_56 : decode c_mo_writeItem 56 = .ok (.iload 6, 2) := by decide +kernel
theorem d_mo_writeItem_58 : decode c_mo_writeItem 58 = .ok (.iaload, 1) := by decide +kernel
theorem d_mo_writeItem_59 : decode c_mo_writeItem 59 = .ok (.goto 10, 3) := by decide +kernel
theorem d_mo_writeItem_62 : decode c_mo_writeItem 62 = .ok (.aload_n 0, 1) := by decide +kernel
theorem d_mo_writeItem_63 : decode c_mo_writeItem 63 = .ok (.getfield 129, 3) := by decide +kernel
theorem d_mo_writeItem_66 : decode c_mo_writeItem 66 = .ok (.iload 6, 2) := by decide +kernel
theorem d_mo_writeItem_68 : decode c_mo_writeItem 68 = .ok (.iaload, 1) := by decide +kernel
theorem d_mo_writeItem_69 : decode c_mo_writeItem 69 = .ok (.aload_n 0, 1) := by decide +kernel
theorem d_mo_writeItem_70 : decode c_mo_writeItem 70 = .ok (.getfield 120, 3) := by decide +kernel
theorem d_mo_writeItem_73 : decode c_mo_writeItem 73 = .ok (.iload_n 3, 1) := by decide +kernel
theorem d_mo_writeItem_74 : decode c_mo_writeItem 74 = .ok (.iaload, 1) := by decide +kernel
theorem d_mo_writeItem_75 : decode c_mo_writeItem 75 = .ok (.iadd, 1) := by decide +kernel
theorem d_mo_writeItem_76 : decode c_mo_writeItem 76 = .ok (.iastore, 1) := by decide +kernel
theorem d_mo_writeItem_77 : decode c_mo_writeItem 77 = .ok (.iload 5, 2) := by decide +kernel
theorem d_mo_writeItem_79 : decode c_mo_writeItem 79 = .ok (.bipush 6, 2) := by decide +kernel
theorem d_mo_writeItem_81 : decode c_mo_writeItem 81 = .ok (.if_icmp .eq 10, 3) := by decide +kernel
theorem d_mo_writeItem_84 : decode c_mo_writeItem 84 = .ok (.iload 5, 2) := by decide +kernel
theorem d_mo_writeItem_86 : decode c_mo_writeItem 86 = .ok (.bipush 8, 2) := by decide +kernel
theorem d_mo_writeItem_88 : decode c_mo_writeItem 88 = .ok (.if_icmp .ne 181, 3) := by decide +kernel
theorem d_mo_writeItem_91 : decode c_mo_writeItem 91 = .ok (.aload_n 0, 1) := by decide +kernel
theorem d_mo_writeItem_92 : decode c_mo_writeItem 92 = .ok (.getfield 126, 3) := by decide +kernel
theorem d_mo_writeItem_95 : decode c_mo_writeItem 95 = .ok (.iload_n 3, 1) := by decide +kernel
theorem d_mo_writeItem_96 : decode c_mo_writeItem 96 = .ok (.iaload, 1) := by decide +kernel
theorem d_mo_writeItem_97 : decode c_mo_writeItem 97 = .ok (.istore 7, 2) := by decide +kernel
theorem d_mo_writeItem_99 : decode c_mo_writeItem 99 = .ok (.aload_n 0, 1) := by decide +kernel
theorem d_mo_writeItem_100 : decode c_mo_writeItem 100 = .ok (.getfield 132, 3) := by decide +kernel
theorem d_mo_writeItem_103 : decode c_mo_writeItem 103 = .ok (.iload_n 3, 1) := by decide +kernel
theorem d_mo_writeItem_104 : decode c_mo_writeItem 104 = .ok (.iload 5, 2) := by decide +kernel
theorem d_mo_writeItem_106 : decode c_mo_writeItem 106 = .ok (.bipush 6, 2) := by decide +kernel
theorem d_mo_writeItem_108 : decode c_mo_writeItem 108 = .ok (.if_icmp .ne 14, 3) := by decide +kernel
theorem d_mo_writeItem_111 : decode c_mo_writeItem 111 = .ok (.aload_n 0, 1) := by decide +kernel
theorem d_mo_writeItem_112 : decode c_mo_writeItem 112 = .ok (.iload_n 2, 1) := by decide +kernel
theorem d_mo_writeItem_113 : decode c_mo_writeItem 113 = .ok (.iload 7, 2) := by decide +kernel
theorem d_mo_writeItem_115 : decode c_mo_writeItem 115 = .ok (.iconst 1, 1) := by decide +kernel
theorem d_mo_writeItem_116 : decode c_mo_writeItem 116 = .ok (.invokevirtual 266, 3) := by decide +kernel
theorem d_mo_writeItem_119 : decode c_mo_writeItem 119 = .ok (.goto 41, 3) := by decide +kernel
theorem d_mo_writeItem_122 : decode c_mo_writeItem 122 = .ok (.aload_n 0, 1) := by decide +kernel
theorem d_mo_writeItem_123 : decode c_mo_writeItem 123 = .ok (.iload_n 2, 1) := by decide +kernel
theorem d_mo_writeItem_124 : decode c_mo_writeItem 124 = .ok (.iload 7, 2) := by decide +kernel
theorem d_mo_writeItem_126 : decode c_mo_writeItem 126 = .ok (.aload_n 0, 1) := by decide +kernel
theorem d_mo_writeItem_127 : decode c_mo_writeItem 127 = .ok (.getfield 16, 3) := by decide +kernel
theorem d_mo_writeItem_130 : decode c_mo_writeItem 130 = .ok (.aload_n 0, 1) := by decide +kernel
theorem d_mo_writeItem_131 : decode c_mo_writeItem 131 = .ok (.getfield 28, 3) := by decide +kernel
theorem d_mo_writeItem_134 : decode c_mo_writeItem 134 = .ok (.bipush 6, 2) := by decide +kernel
theorem d_mo_writeItem_136 : decode c_mo_writeItem 136 = .ok (.iload 4, 2) := by decide +kernel
theorem d_mo_writeItem_138 : decode c_mo_writeItem 138 = .ok (.imul, 1) := by decide +kernel
theorem d_mo_writeItem_139 : decode c_mo_writeItem 139 = .ok (.iaload, 1) := by decide +kernel
theorem d_mo_writeItem_140 : decode c_mo_writeItem 140 = .ok (.iaload, 1) := by decide +kernel
theorem d_mo_writeItem_141 : decode c_mo_writeItem 141 = .ok (.imul, 1) := by decide +kernel
theorem d_mo_writeItem_142 : decode c_mo_writeItem 142 = .ok (.aload_n 0, 1) := by decide +kernel
theorem d_mo_writeItem_143 : decode c_mo_writeItem 143 = .ok (.getfield 19, 3) := by decide +kernel
theorem d_mo_writeItem_146 : decode c_mo_writeItem 146 = .ok (.aload_n 0, 1) := by decide +kernel
theorem d_mo_writeItem_147 : decode c_mo_writeItem 147 = .ok (.getfield 28, 3) := by decide +kernel
theorem d_mo_writeItem_150 : decode c_mo_writeItem 150 = .ok (.bipush 6, 2) := by decide +kernel
theorem d_mo_writeItem_152 : decode c_mo_writeItem 152 = .ok (.iload 4, 2) := by decide +kernel
theorem d_mo_writeItem_154 : decode c_mo_writeItem 154 = .ok (.imul, 1) := by decide +kernel
theorem d_mo_writeItem_155 : decode c_mo_writeItem 155 = .ok (.iaload, 1) := by decide +kernel
theorem d_mo_writeItem_156 : decode c_mo_writeItem 156 = .ok (.iaload, 1) := by decide +kernel
theorem d_mo_writeItem_157 : decode c_mo_writeItem 157 = .ok (.invokevirtual 266, 3) := by decide +kernel
theorem d_mo_writeItem_160 : decode c_mo_writeItem 160 = .ok (.iastore, 1) := by decide +kernel
theorem d_mo_writeItem_161 : decode c_mo_writeItem 161 = .ok (.aload_n 0, 1) := by decide +kernel
theorem d_mo_writeItem_162 : decode c_mo_writeItem 162 = .ok (.getfield 224, 3) := by decide +kernel
theorem d_mo_writeItem_165 : decode c_mo_writeItem 165 = .ok (.ifCond .le 4, 3) := by decide +kernel
theorem d_mo_writeItem_168 : decode c_mo_writeItem 168 = .ok (.return_, 1) := by decide +kernel
theorem d_mo_writeItem_169 : decode c_mo_writeItem 169 = .ok (.aload_n 0, 1) := by decide +kernel
theorem d_mo_writeItem_170 : decode c_mo_writeItem 170 = .ok (.iload_n 2, 1) := by decide +kernel
theorem d_mo_writeItem_171 : decode c_mo_writeItem 171 = .ok (.aload_n 0, 1) := by decide +kernel
theorem d_mo_writeItem_172 : decode c_mo_writeItem 172 = .ok (.getfield 129, 3) := by decide +kernel
theorem d_mo_writeItem_175 : decode c_mo_writeItem 175 = .ok (.iload_n 3, 1) := by decide +kernel
theorem d_mo_writeItem_176 : decode c_mo_writeItem 176 = .ok (.iaload, 1) := by decide +kernel
theorem d_mo_writeItem_177 : decode c_mo_writeItem 177 = .ok (.iconst 2, 1) := by decide +kernel
theorem d_mo_writeItem_178 : decode c_mo_writeItem 178 = .ok (.aload_n 0, 1) := by decide +kernel
theorem d_mo_writeItem_179 : decode c_mo_writeItem 179 = .ok (.getfield 132, 3) := by decide +kernel
theorem d_mo_writeItem_182 : decode c_mo_writeItem 182 = .ok (.iload_n 3, 1) := by decide +kernel
theorem d_mo_writeItem_183 : decode c_mo_writeItem 183 = .ok (.iaload, 1) := by decide +kernel
theorem d_mo_writeItem_184 : decode c_mo_writeItem 184 = .ok (.invokevirtual 263, 3) := by decide +kernel
theorem d_mo_writeItem_187 : decode c_mo_writeItem 187 = .ok (.aload_n 0, 1) := by decide +kernel
theorem d_mo_writeItem_188 : decode c_mo_writeItem 188 = .ok (.iload_n 2, 1) := by decide +kernel
theorem d_mo_writeItem_189 : decode c_mo_writeItem 189 = .ok (.aload_n 0, 1) := by decide +kernel
theorem d_mo_writeItem_190 : decode c_mo_writeItem 190 = .ok (.getfield 129, 3) := by decide +kernel
theorem d_mo_writeItem_193 : decode c_mo_writeItem 193 = .ok (.iload_n 3, 1) := by decide +kernel
theorem d_mo_writeItem_194 : decode c_mo_writeItem 194 = .ok (.iaload, 1) := by decide +kernel
theorem d_mo_writeItem_195 : decode c_mo_writeItem 195 = .ok (.iconst 2, 1) := by decide +kernel
theorem d_mo_writeItem_196 : decode c_mo_writeItem 196 = .ok (.iadd, 1) := by decide +kernel
theorem d_mo_writeItem_197 : decode c_mo_writeItem 197 = .ok (.iconst 2, 1) := by decide +kernel
theorem d_mo_writeItem_198 : decode c_mo_writeItem 198 = .ok (.iload 7, 2) := by decide +kernel
theorem d_mo_writeItem_200 : decode c_mo_writeItem 200 = .ok (.invokevirtual 263, 3) := by decide +kernel
theorem d_mo_writeItem_203 : decode c_mo_writeItem 203 = .ok (.iconst 0, 1) := by decide +kernel
theorem d_mo_writeItem_204 : decode c_mo_writeItem 204 = .ok (.istore 8, 2) := by decide +kernel
theorem d_mo_writeItem_206 : decode c_mo_writeItem 206 = .ok (.iload 8, 2) := by decide +kernel
theorem d_mo_writeItem_208 : decode c_mo_writeItem 208 = .ok (.iload 7, 2) := by decide +kernel
theorem d_mo_writeItem_210 : decode c_mo_writeItem 210 = .ok (.if_icmp .ge 56, 3) := by decide +kernel
theorem d_mo_writeItem_213 : decode c_mo_writeItem 213 = .ok (.iload 5, 2) := by decide +kernel
theorem d_mo_writeItem_215 : decode c_mo_writeItem 215 = .ok (.bipush 6, 2) := by decide +kernel
theorem d_mo_writeItem_217 : decode c_mo_writeItem 217 = .ok (.if_icmp .ne 49, 3) := by decide +kernel
theorem d_mo_writeItem_220 : decode c_mo_writeItem 220 = .ok (.aload_n 0, 1) := by decide +kernel
theorem d_mo_writeItem_221 : decode c_mo_writeItem 221 = .ok (.getfield 37, 3) := by decide +kernel
theorem d_mo_writeItem_224 : decode c_mo_writeItem 224 = .ok (.sipush 256, 3) := by decide +kernel
theorem d_mo_writeItem_227 : decode c_mo_writeItem 227 = .ok (.iload_n 2, 1) := by decide +kernel
theorem d_mo_writeItem_228 : decode c_mo_writeItem 228 = .ok (.imul, 1) := by decide +kernel
theorem d_mo_writeItem_229 : decode c_mo_writeItem 229 = .ok (.aload_n 0, 1) := by decide +kernel
theorem d_mo_writeItem_230 : decode c_mo_writeItem 230 = .ok (.getfield 132, 3) := by decide +kernel
theorem d_mo_writeItem_233 : decode c_mo_writeItem 233 = .ok (.iload_n 3, 1) := by decide +kernel
theorem d_mo_writeItem_234 : decode c_mo_writeItem 234 = .ok (.iaload, 1) := by decide +kernel
theorem d_mo_writeItem_235 : decode c_mo_writeItem 235 = .ok (.iadd, 1) := by decide +kernel
theorem d_mo_writeItem_236 : decode c_mo_writeItem 236 = .ok (.iload 8, 2) := by decide +kernel
theorem d_mo_writeItem_238 : decode c_mo_writeItem 238 = .ok (.iadd, 1) := by decide +kernel
theorem d_mo_writeItem_239 : decode c_mo_writeItem 239 = .ok (.aload_n 0, 1) := by decide +kernel
theorem d_mo_writeItem_240 : decode c_mo_writeItem 240 = .ok (.getfield 37, 3) := by decide +kernel
theorem d_mo_writeItem_243 : decode c_mo_writeItem 243 = .ok (.sipush 256, 3) := by decide +kernel
theorem d_mo_writeItem_246 : decode c_mo_writeItem 246 = .ok (.iload_n 1, 1) := by decide +kernel
theorem d_mo_writeItem_247 : decode c_mo_writeItem 247 = .ok (.imul, 1) := by decide +kernel
theorem d_mo_writeItem_248 : decode c_mo_writeItem 248 = .ok (.aload_n 0, 1) := by decide +kernel
theorem d_mo_writeItem_249 : decode c_mo_writeItem 249 = .ok (.getfield 123, 3) := by decide +kernel
theorem d_mo_writeItem_252 : decode c_mo_writeItem 252 = .ok (.iload_n 3, 1) := by decide +kernel
theorem d_mo_writeItem_253 : decode c_mo_writeItem 253 = .ok (.iaload, 1) := by decide +kernel
theorem d_mo_writeItem_254 : decode c_mo_writeItem 254 = .ok (.iadd, 1) := by decide +kernel
theorem d_mo_writeItem_255 : decode c_mo_writeItem 255 = .ok (.iload 8, 2) := by decide +kernel
theorem d_mo_writeItem_257 : decode c_mo_writeItem 257 = .ok (.iadd, 1) := by decide +kernel
theorem d_mo_writeItem_258 : decode c_mo_writeItem 258 = .ok (.iaload, 1) := by decide +kernel
theorem d_mo_writeItem_259 : decode c_mo_writeItem 259 = .ok (.iastore, 1) := by decide +kernel
theorem d_mo_writeItem_260 : decode c_mo_writeItem 260 = .ok (.iinc 8 1, 3) := by decide +kernel
theorem d_mo_writeItem_263 : decode c_mo_writeItem 263 = .ok (.goto (-57), 3) := by decide +kernel
theorem d_mo_writeItem_266 : decode c_mo_writeItem 266 = .ok (.goto 102, 3) := by decide +kernel
theorem d_mo_writeItem_269 : decode c_mo_writeItem 269 = .ok (.iload 5, 2) := by decide +kernel
theorem d_mo_writeItem_271 : decode c_mo_writeItem 271 = .ok (.bipush 10, 2) := by decide +kernel
theorem d_mo_writeItem_273 : decode c_mo_writeItem 273 = .ok (.if_icmp .le 12, 3) := by decide +kernel
theorem d_mo_writeItem_276 : decode c_mo_writeItem 276 = .ok (.aload_n 0, 1) := by decide +kernel
theorem d_mo_writeItem_277 : decode c_mo_writeItem 277 = .ok (.iload_n 2, 1) := by decide +kernel
theorem d_mo_writeItem_278 : decode c_mo_writeItem 278 = .ok (.iload_n 3, 1) := by decide +kernel
theorem d_mo_writeItem_279 : decode c_mo_writeItem 279 = .ok (.invokevirtual 269, 3) := by decide +kernel
theorem d_mo_writeItem_282 : decode c_mo_writeItem 282 = .ok (.goto 86, 3) := by decide +kernel
theorem d_mo_writeItem_285 : decode c_mo_writeItem 285 = .ok (.iload 5, 2) := by decide +kernel
theorem d_mo_writeItem_287 : decode c_mo_writeItem 287 = .ok (.bipush 9, 2) := by decide +kernel
theorem d_mo_writeItem_289 : decode c_mo_writeItem 289 = .ok (.if_icmp .eq 79, 3) := by decide +kernel
theorem d_mo_writeItem_292 : decode c_mo_writeItem 292 = .ok (.iload 5, 2) := by decide +kernel
theorem d_mo_writeItem_294 : decode c_mo_writeItem 294 = .ok (.bipush 10, 2) := by decide +kernel
theorem d_mo_writeItem_296 : decode c_mo_writeItem 296 = .ok (.if_icmp .ne 7, 3) := by decide +kernel
theorem d_mo_writeItem_299 : decode c_mo_writeItem 299 = .ok (.iconst 1, 1) := by decide +kernel
theorem d_mo_writeItem_300 : decode c_mo_writeItem 300 = .ok (.goto 10, 3) := by decide +kernel
theorem d_mo_writeItem_303 : decode c_mo_writeItem 303 = .ok (.aload_n 0, 1) := by decide +kernel
theorem d_mo_writeItem_304 : decode c_mo_writeItem 304 = .ok (.getfield 16, 3) := by decide +kernel
theorem d_mo_writeItem_307 : decode c_mo_writeItem 307 = .ok (.iload 4, 2) := by decide +kernel
theorem d_mo_writeItem_309 : decode c_mo_writeItem 309 = .ok (.iaload, 1) := by decide +kernel
theorem d_mo_writeItem_310 : decode c_mo_writeItem 310 = .ok (.istore 7, 2) := by decide +kernel
theorem d_mo_writeItem_312 : decode c_mo_writeItem 312 = .ok (.iconst 0, 1) := by decide +kernel
theorem d_mo_writeItem_313 : decode c_mo_writeItem 313 = .ok (.istore 8, 2) := by decide +kernel
theorem d_mo_writeItem_315 : decode c_mo_writeItem 315 = .ok (.iload 8, 2) := by decide +kernel
theorem d_mo_writeItem_317 : decode c_mo_writeItem 317 = .ok (.iload 7, 2) := by decide +kernel
theorem d_mo_writeItem_319 : decode c_mo_writeItem 319 = .ok (.if_icmp .ge 49, 3) := by decide +kernel
theorem d_mo_writeItem_322 : decode c_mo_writeItem 322 = .ok (.aload_n 0, 1) := by decide +kernel
theorem d_mo_writeItem_323 : decode c_mo_writeItem 323 = .ok (.getfield 37, 3) := by decide +kernel
theorem d_mo_writeItem_326 : decode c_mo_writeItem 326 = .ok (.sipush 256, 3) := by decide +kernel
theorem d_mo_writeItem_329 : decode c_mo_writeItem 329 = .ok (.iload_n 2, 1) := by decide +kernel
theorem d_mo_writeItem_330 : decode c_mo_writeItem 330 = .ok (.imul, 1) := by decide +kernel
theorem d_mo_writeItem_331 : decode c_mo_writeItem 331 = .ok (.aload_n 0, 1) := by decide +kernel
theorem d_mo_writeItem_332 : decode c_mo_writeItem 332 = .ok (.getfield 129, 3) := by decide +kernel
theorem d_mo_writeItem_335 : decode c_mo_writeItem 335 = .ok (.iload_n 3, 1) := by decide +kernel
theorem d_mo_writeItem_336 : decode c_mo_writeItem 336 = .ok (.iaload, 1) := by decide +kernel
theorem d_mo_writeItem_337 : decode c_mo_writeItem 337 = .ok (.iadd, 1) := by decide +kernel
theorem d_mo_writeItem_338 : decode c_mo_writeItem 338 = .ok (.iload 8, 2) := by decide +kernel
theorem d_mo_writeItem_340 : decode c_mo_writeItem 340 = .ok (.iadd, 1) := by decide +kernel
theorem d_mo_writeItem_341 : decode c_mo_writeItem 341 = .ok (.aload_n 0, 1) := by decide +kernel
theorem d_mo_writeItem_342 : decode c_mo_writeItem 342 = .ok (.getfield 37, 3) := by decide +kernel
theorem d_mo_writeItem_345 : decode c_mo_writeItem 345 = .ok (.sipush 256, 3) := by decide +kernel
theorem d_mo_writeItem_348 : decode c_mo_writeItem 348 = .ok (.iload_n 1, 1) := by decide +kernel
theorem d_mo_writeItem_349 : decode c_mo_writeItem 349 = .ok (.imul, 1) := by decide +kernel
theorem d_mo_writeItem_350 : decode c_mo_writeItem 350 = .ok (.aload_n 0, 1) := by decide +kernel
theorem d_mo_writeItem_351 : decode c_mo_writeItem 351 = .ok (.getfield 114, 3) := by decide +kernel
theorem d_mo_writeItem_354 : decode c_mo_writeItem 354 = .ok (.iload_n 3, 1) := by decide +kernel
theorem d_mo_writeItem_355 : decode c_mo_writeItem 355 = .ok (.iaload, 1) := by decide +kernel
theorem d_mo_writeItem_356 : decode c_mo_writeItem 356 = .ok (.iadd, 1) := by decide +kernel
theorem d_mo_writeItem_357 : decode c_mo_writeItem 357 = .ok (.iload 8, 2) := by decide +kernel
theorem d_mo_writeItem_359 : decode c_mo_writeItem 359 = .ok (.iadd, 1) := by decide +kernel
theorem d_mo_writeItem_360 : decode c_mo_writeItem 360 = .ok (.iaload, 1) := by decide +kernel
theorem d_mo_writeItem_361 : decode c_mo_writeItem 361 = .ok (.iastore, 1) := by decide +kernel
theorem d_mo_writeItem_362 : decode c_mo_writeItem 362 = .ok (.iinc 8 1, 3) := by decide +kernel
theorem d_mo_writeItem_365 : decode c_mo_writeItem 365 = .ok (.goto (-50), 3) := by decide +kernel
theorem d_mo_writeItem_368 : decode c_mo_writeItem 368 = .ok (.return_, 1) := by decide +kernel
theorem d_mo_pass_0 : decode c_mo_pass 0 = .ok (.aload_n 0, 1) := by decide +kernel
theorem d_mo_pass_1 : decode c_mo_pass 1 = .ok (.iconst 0, 1) := by decide +kernel
theorem d_mo_pass_2 : decode c_mo_pass 2 = .ok (.putfield 224, 3) := by decide +kernel
theorem d_mo_pass_5 : decode c_mo_pass 5 = .ok (.aload_n 0, 1) := by decide +kernel
theorem d_mo_pass_6 : decode c_mo_pass 6 = .ok (.iconst 0, 1) := by decide +kernel
theorem d_mo_pass_7 : decode c_mo_pass 7 = .ok (.putfield 260, 3) := by decide +kernel
theorem d_mo_pass_10 : decode c_mo_pass 10 = .ok (.aload_n 0, 1) := by decide +kernel
theorem d_mo_pass_11 : decode c_mo_pass 11 = .ok (.iload_n 1, 1) := by decide +kernel
theorem d_mo_pass_12 : decode c_mo_pass 12 = .ok (.iload_n 2, 1) := by decide +kernel
theorem d_mo_pass_13 : decode c_mo_pass 13 = .ok (.iload_n 3, 1) := by decide +kernel
theorem d_mo_pass_14 : decode c_mo_pass 14 = .ok (.iload 5, 2) := by decide +kernel
theorem d_mo_pass_16 : decode c_mo_pass 16 = .ok (.invokevirtual 272, 3) := by decide +kernel
theorem d_mo_pass_19 : decode c_mo_pass 19 = .ok (.aload_n 0, 1) := by decide +kernel
theorem d_mo_pass_20 : decode c_mo_pass 20 = .ok (.getfield 224, 3) := by decide +kernel
theorem d_mo_pass_23 : decode c_mo_pass 23 = .ok (.ifCond .ne 26, 3) := by decide +kernel
theorem d_mo_pass_26 : decode c_mo_pass 26 = .ok (.aload_n 0, 1) := by decide +kernel
theorem d_mo_pass_27 : decode c_mo_pass 27 = .ok (.iload 4, 2) := by decide +kernel
theorem d_mo_pass_29 : decode c_mo_pass 29 = .ok (.aload_n 0, 1) := by decide +kernel
theorem d_mo_pass_30 : decode c_mo_pass 30 = .ok (.getfield 16, 3) := by decide +kernel
theorem d_mo_pass_33 : decode c_mo_pass 33 = .ok (.iload 5, 2) := by decide +kernel
theorem d_mo_pass_35 : decode c_mo_pass 35 = .ok (.iaload, 1) := by decide +kernel
theorem d_mo_pass_36 : decode c_mo_pass 36 = .ok (.aload_n 0, 1) := by decide +kernel
theorem d_mo_pass_37 : decode c_mo_pass 37 = .ok (.getfield 19, 3) := by decide +kernel
theorem d_mo_pass_40 : decode c_mo_pass 40 = .ok (.iload 5, 2) := by decide +kernel
theorem d_mo_pass_42 : decode c_mo_pass 42 = .ok (.iaload, 1) := by decide +kernel
theorem d_mo_pass_43 : decode c_mo_pass 43 = .ok (.invokevirtual 266, 3) := by decide +kernel
theorem d_mo_pass_46 : decode c_mo_pass 46 = .ok (.goto 4, 3) := by decide +kernel
theorem d_mo_pass_49 : decode c_mo_pass 49 = .ok (.iconst 0, 1) := by decide +kernel
theorem d_mo_pass_50 : decode c_mo_pass 50 = .ok (.istore 6, 2) := by decide +kernel
theorem d_mo_pass_52 : decode c_mo_pass 52 = .ok (.aload_n 0, 1) := by decide +kernel
theorem d_mo_pass_53 : decode c_mo_pass 53 = .ok (.getfield 129, 3) := by decide +kernel
theorem d_mo_pass_56 : decode c_mo_pass 56 = .ok (.iconst 0, 1) := by decide +kernel
theorem d_mo_pass_57 : decode c_mo_pass 57 = .ok (.iload 6, 2) := by decide +kernel
theorem d_mo_pass_59 : decode c_mo_pass 59 = .ok (.iastore, 1) := by decide +kernel
theorem d_mo_pass_60 : decode c_mo_pass 60 = .ok (.iconst 0, 1) := by decide +kernel
theorem d_mo_pass_61 : decode c_mo_pass 61 = .ok (.istore 7, 2) := by decide +kernel
theorem d_mo_pass_63 : decode c_mo_pass 63 = .ok (.iload 7, 2) := by decide +kernel
theorem d_mo_pass_65 : decode c_mo_pass 65 = .ok (.aload_n 0, 1) := by decide +kernel
theorem d_mo_pass_66 : decode c_mo_pass 66 = .ok (.getfield 237, 3) := by decide +kernel
theorem d_mo_pass_69 : decode c_mo_pass 69 = .ok (.if_icmp .ge 25, 3) := by decide +kernel
theorem d_mo_pass_72 : decode c_mo_pass 72 = .ok (.aload_n 0, 1) := by decide +kernel
theorem d_mo_pass_73 : decode c_mo_pass 73 = .ok (.getfield 224, 3) := by decide +kernel
theorem d_mo_pass_76 : decode c_mo_pass 76 = .ok (.ifCond .ne 18, 3) := by decide +kernel
theorem d_mo_pass_79 : decode c_mo_pass 79 = .ok (.aload_n 0, 1) := by decide +kernel
theorem d_mo_pass_80 : decode c_mo_pass 80 = .ok (.iload_n 1, 1) := by decide +kernel
theorem d_mo_pass_81 : decode c_mo_pass 81 = .ok (.iload 4, 2) := by decide +kernel
theorem d_mo_pass_83 : decode c_mo_pass 83 = .ok (.iload 7, 2) := by decide +kernel
theorem d_mo_pass_85 : decode c_mo_pass 85 = .ok (.invokevirtual 275, 3) := by decide +kernel
theorem d_mo_pass_88 : decode c_mo_pass 88 = .ok (.iinc 7 1, 3) := by decide +kernel
theorem d_mo_pass_91 : decode c_mo_pass 91 = .ok (.goto (-28), 3) := by decide +kernel
theorem d_mo_pass_94 : decode c_mo_pass 94 = .ok (.iconst 0, 1) := by decide +kernel
theorem d_mo_pass_95 : decode c_mo_pass 95 = .ok (.istore 7, 2) := by decide +kernel
theorem d_mo_pass_97 : decode c_mo_pass 97 = .ok (.iload 7, 2) := by decide +kernel
theorem d_mo_pass_99 : decode c_mo_pass 99 = .ok (.bipush 102, 2) := by decide +kernel
theorem d_mo_pass_101 : decode c_mo_pass 101 = .ok (.if_icmp .ge 64, 3) := by decide +kernel
theorem d_mo_pass_104 : decode c_mo_pass 104 = .ok (.aload_n 0, 1) := by decide +kernel
theorem d_mo_pass_105 : decode c_mo_pass 105 = .ok (.getfield 46, 3) := by decide +kernel
theorem d_mo_pass_108 : decode c_mo_pass 108 = .ok (.iload 7, 2) := by decide +kernel
theorem d_mo_pass_110 : decode c_mo_pass 110 = .ok (.aload_n 0, 1) := by decide +kernel
theorem d_mo_pass_111 : decode c_mo_pass 111 = .ok (.getfield 46, 3) := by decide +kernel
theorem d_mo_pass_114 : decode c_mo_pass 114 = .ok (.iload 7, 2) := by decide +kernel
theorem d_mo_pass_116 : decode c_mo_pass 116 = .ok (.baload, 1) := by decide +kernel
theorem d_mo_pass_117 : decode c_mo_pass 117 = .ok (.ifCond .eq 24, 3) := by decide +kernel
theorem d_mo_pass_120 : decode c_mo_pass 120 = .ok (.aload_n 0, 1) := by decide +kernel
theorem d_mo_pass_121 : decode c_mo_pass 121 = .ok (.getfield 59, 3) := by decide +kernel
theorem d_mo_pass_124 : decode c_mo_pass 124 = .ok (.iload 7, 2) := by decide +kernel
theorem d_mo_pass_126 : decode c_mo_pass 126 = .ok (.baload, 1) := by decide +kernel
theorem d_mo_pass_127 : decode c_mo_pass 127 = .ok (.ifCond .eq 10, 3) := by decide +kernel
theorem d_mo_pass_130 : decode c_mo_pass 130 = .ok (.aload_n 0, 1) := by decide +kernel
theorem d_mo_pass_131 : decode c_mo_pass 131 = .ok (.getfield 224, 3) := by decide +kernel
theorem d_mo_pass_134 : decode c_mo_pass 134 = .ok (.ifCond .eq 7, 3) := by decide +kernel
theorem d_mo_pass_137 : decode c_mo_pass 137 = .ok (.iconst 1, 1) := by decide +kernel
theorem d_mo_pass_138 : decode c_mo_pass 138 = .ok (.goto 4, 3) := by decide +kernel
theorem d_mo_pass_141 : decode c_mo_pass 141 = .ok (.iconst 0, 1) := by decide +kernel
theorem d_mo_pass_142 : decode c_mo_pass 142 = .ok (.bastore, 1) := by decide +kernel
theorem d_mo_pass_143 : decode c_mo_pass 143 = .ok (.aload_n 0, 1) := by decide +kernel
theorem d_mo_pass_144 : decode c_mo_pass 144 = .ok (.getfield 59, 3) := by decide +kernel
theorem d_mo_pass_147 : decode c_mo_pass 147 = .ok (.iload 7, 2) := by decide +kernel
theorem d_mo_pass_149 : decode c_mo_pass 149 = .ok (.iconst 0, 1) := by decide +kernel
theorem d_mo_pass_150 : decode c_mo_pass 150 = .ok (.bastore, 1) := by decide +kernel
theorem d_mo_pass_151 : decode c_mo_pass 151 = .ok (.aload_n 0, 1) := by decide +kernel
theorem d_mo_pass_152 : decode c_mo_pass 152 = .ok (.getfield 62, 3) := by decide +kernel
theorem d_mo_pass_155 : decode c_mo_pass 155 = .ok (.iload 7, 2) := by decide +kernel
theorem d_mo_pass_157 : decode c_mo_pass 157 = .ok (.iconst 0, 1) := by decide +kernel
theorem d_mo_pass_158 : decode c_mo_pass 158 = .ok (.iastore, 1) := by decide +kernel
theorem d_mo_pass_159 : decode c_mo_pass 159 = .ok (.iinc 7 1, 3) := by decide +kernel
theorem d_mo_pass_162 : decode c_mo_pass 162 = .ok (.goto (-65), 3) := by decide +kernel
theorem d_mo_pass_165 : decode c_mo_pass 165 = .ok (.iload 6, 2) := by decide +kernel
theorem d_mo_pass_167 : decode c_mo_pass 167 = .ok (.ireturn, 1) := by decide +kernel
