theorem d_mo_readItem_0 : decode c_mo_readItem 0 = .ok (.aload_n 0, 1) := by decide +kernel
theorem d_mo_readItem_1 : decode c_mo_readItem 1 = .ok (.getfield 237, 3) := by decide +kernel
theorem d_mo_readItem_4 : decode c_mo_readItem 4 = .ok (.sipush 200, 3) := by decide +kernel
theorem d_mo_readItem_7 : decode c_mo_readItem 7 = .ok (.if_icmp .ne 12, 3) := by decide +kernel
theorem d_mo_readItem_10 : decode c_mo_readItem 10 = .ok (.aload_n 0, 1) := by decide +kernel
theorem d_mo_readItem_11 : decode c_mo_readItem 11 = .ok (.bipush 10, 2) := by decide +kernel
theorem d_mo_readItem_13 : decode c_mo_readItem 13 = .ok (.iload 4, 2) := by decide +kernel
theorem d_mo_readItem_15 : decode c_mo_readItem 15 = .ok (.invokevirtual 230, 3) := by decide +kernel
theorem d_mo_readItem_18 : decode c_mo_readItem 18 = .ok (.return_, 1) := by decide +kernel
theorem d_mo_readItem_19 : decode c_mo_readItem 19 = .ok (.iload 4, 2) := by decide +kernel
theorem d_mo_readItem_21 : decode c_mo_readItem 21 = .ok (.aload_n 0, 1) := by decide +kernel
theorem d_mo_readItem_22 : decode c_mo_readItem 22 = .ok (.getfield 19, 3) := by decide +kernel
theorem d_mo_readItem_25 : decode c_mo_readItem 25 = .ok (.iload_n 2, 1) := by decide +kernel
theorem d_mo_readItem_26 : decode c_mo_readItem 26 = .ok (.iaload, 1) := by decide +kernel
theorem d_mo_readItem_27 : decode c_mo_readItem 27 = .ok (.irem, 1) := by decide +kernel
theorem d_mo_readItem_28 : decode c_mo_readItem 28 = .ok (.ifCond .eq 11, 3) := by decide +kernel
theorem d_mo_readItem_31 : decode c_mo_readItem 31 = .ok (.aload_n 0, 1) := by decide +kernel
theorem d_mo_readItem_32 : decode c_mo_readItem 32 = .ok (.iconst 5, 1) := by decide +kernel
theorem d_mo_readItem_33 : decode c_mo_readItem 33 = .ok (.iload 4, 2) := by decide +kernel
theorem d_mo_readItem_35 : decode c_mo_readItem 35 = .ok (.invokevirtual 230, 3) := by decide +kernel
theorem d_mo_readItem_38 : decode c_mo_readItem 38 = .ok (.return_, 1) := by decide +kernel
theorem d_mo_readItem_39 : decode c_mo_readItem 39 = .ok (.aload_n 0, 1) := by decide +kernel
theorem d_mo_readItem_40 : decode c_mo_readItem 40 = .ok (.getfield 237, 3) := by decide +kernel
theorem d_mo_readItem_43 : decode c_mo_readItem 43 = .ok (.istore 7, 2) := by decide +kernel
theorem d_mo_readItem_45 : decode c_mo_readItem 45 = .ok (.aload_n 0, 1) := by decide +kernel
theorem d_mo_readItem_46 : decode c_mo_readItem 46 = .ok (.dup, 1) := by decide +kernel
theorem d_mo_readItem_47 : decode c_mo_readItem 47 = .ok (.getfield 237, 3) := by decide +kernel
theorem d_mo_readItem_50 : decode c_mo_readItem 50 = .ok (.iconst 1, 1) := by decide +kernel
theorem d_mo_readItem_51 : decode c_mo_readItem 51 = .ok (.iadd, 1) := by decide +kernel
theorem d_mo_readItem_52 : decode c_mo_readItem 52 = .ok (.putfield 237, 3) := by decide +kernel
theorem d_mo_readItem_55 : decode c_mo_readItem 55 = .ok (.aload_n 0, 1) := by decide +kernel
theorem d_mo_readItem_56 : decode c_mo_readItem 56 = .ok (.getfield 111, 3) := by decide +kernel
theorem d_mo_readItem_59 : decode c_mo_readItem 59 = .ok (.iload 7, 2) := by decide +kernel
theorem d_mo_readItem_61 : decode c_mo_readItem 61 = .ok (.iload_n 3, 1) := by decide +kernel
theorem d_mo_readItem_62 : decode c_mo_readItem 62 = .ok (.iastore, 1) := by decide +kernel
theorem d_mo_readItem_63 : decode c_mo_readItem 63 = .ok (.aload_n 0, 1) := by decide +kernel
theorem d_mo_readItem_64 : decode c_mo_readItem 64 = .ok (.getfield 114, 3) := by decide +kernel
theorem d_mo_readItem_67 : decode c_mo_readItem 67 = .ok (.iload 7, 2) := by decide +kernel
theorem d_mo_readItem_69 : decode c_mo_readItem 69 = .ok (.iload 4, 2) := by decide +kernel
theorem d_mo_readItem_71 : decode c_mo_readItem 71 = .ok (.iastore, 1) := by decide +kernel
theorem d_mo_readItem_72 : decode c_mo_readItem 72 = .ok (.aload_n 0, 1) := by decide +kernel
theorem d_mo_readItem_73 : decode c_mo_readItem 73 = .ok (.getfield 117, 3) := by decide +kernel
theorem d_mo_readItem_76 : decode c_mo_readItem 76 = .ok (.iload 7, 2) := by decide +kernel
theorem d_mo_readItem_78 : decode c_mo_readItem 78 = .ok (.iload 5, 2) := by decide +kernel
theorem d_mo_readItem_80 : decode c_mo_readItem 80 = .ok (.iastore, 1) := by decide +kernel
theorem d_mo_readItem_81 : decode c_mo_readItem 81 = .ok (.aload_n 0, 1) := by decide +kernel
theorem d_mo_readItem_82 : decode c_mo_readItem 82 = .ok (.getfield 120, 3) := by decide +kernel
theorem d_mo_readItem_85 : decode c_mo_readItem 85 = .ok (.iload 7, 2) := by decide +kernel
theorem d_mo_readItem_87 : decode c_mo_readItem 87 = .ok (.iload 6, 2) := by decide +kernel
theorem d_mo_readItem_89 : decode c_mo_readItem 89 = .ok (.iastore, 1) := by decide +kernel
theorem d_mo_readItem_90 : decode c_mo_readItem 90 = .ok (.aload_n 0, 1) := by decide +kernel
theorem d_mo_readItem_91 : decode c_mo_readItem 91 = .ok (.getfield 7, 3) := by decide +kernel
theorem d_mo_readItem_94 : decode c_mo_readItem 94 = .ok (.iload_n 2, 1) := by decide +kernel
theorem d_mo_readItem_95 : decode c_mo_readItem 95 = .ok (.iaload, 1) := by decide +kernel
theorem d_mo_readItem_96 : decode c_mo_readItem 96 = .ok (.istore 8, 2) := by decide +kernel
theorem d_mo_readItem_98 : decode c_mo_readItem 98 = .ok (.iload 8, 2) := by decide +kernel
theorem d_mo_readItem_100 : decode c_mo_readItem 100 = .ok (.bipush 6, 2) := by decide +kernel
theorem d_mo_readItem_102 : decode c_mo_readItem 102 = .ok (.if_icmp .eq 10, 3) := by decide +kernel
theorem d_mo_readItem_105 : decode c_mo_readItem 105 = .ok (.iload 8, 2) := by decide +kernel
theorem d_mo_readItem_107 : decode c_mo_readItem 107 = .ok (.bipush 8, 2) := by decide +kernel
theorem d_mo_readItem_109 : decode c_mo_readItem 109 = .ok (.if_icmp .ne 130, 3) := by decide +kernel
theorem d_mo_readItem_112 : decode c_mo_readItem 112 = .ok (.aload_n 0, 1) := by decide +kernel
theorem d_mo_readItem_113 : decode c_mo_readItem 113 = .ok (.getfield 123, 3) := by decide +kernel
theorem d_mo_readItem_116 : decode c_mo_readItem 116 = .ok (.iload 7, 2) := by decide +kernel
theorem d_mo_readItem_118 : decode c_mo_readItem 118 = .ok (.aload_n 0, 1) := by decide +kernel
theorem d_mo_readItem_119 : decode c_mo_readItem 119 = .ok (.iload_n 1, 1) := by decide +kernel
theorem d_mo_readItem_120 : decode c_mo_readItem 120 = .ok (.iload 4, 2) := by decide +kernel
theorem d_mo_readItem_122 : decode c_mo_readItem 122 = .ok (.iconst 2, 1) := by decide +kernel
theorem d_mo_readItem_123 : decode c_mo_readItem 123 = .ok (.invokevirtual 240, 3) := by decide +kernel
theorem d_mo_readItem_126 : decode c_mo_readItem 126 = .ok (.iastore, 1) := by decide +kernel
theorem d_mo_readItem_127 : decode c_mo_readItem 127 = .ok (.aload_n 0, 1) := by decide +kernel
theorem d_mo_readItem_128 : decode c_mo_readItem 128 = .ok (.getfield 126, 3) := by decide +kernel
theorem d_mo_readItem_131 : decode c_mo_readItem 131 = .ok (.iload 7, 2) := by decide +kernel
theorem d_mo_readItem_133 : decode c_mo_readItem 133 = .ok (.aload_n 0, 1) := by decide +kernel
theorem d_mo_readItem_134 : decode c_mo_readItem 134 = .ok (.iload_n 1, 1) := by decide +kernel
theorem d_mo_readItem_135 : decode c_mo_readItem 135 = .ok (.iload 4, 2) := by decide +kernel
theorem d_mo_readItem_137 : decode c_mo_readItem 137 = .ok (.iconst 2, 1) := by decide +kernel
theorem d_mo_readItem_138 : decode c_mo_readItem 138 = .ok (.iadd, 1) := by decide +kernel
theorem d_mo_readItem_139 : decode c_mo_readItem 139 = .ok (.iconst 2, 1) := by decide +kernel
theorem d_mo_readItem_140 : decode c_mo_readItem 140 = .ok (.invokevirtual 240, 3) := by decide +kernel
theorem d_mo_readItem_143 : decode c_mo_readItem 143 = .ok (.iastore, 1) := by decide +kernel
theorem d_mo_readItem_144 : decode c_mo_readItem 144 = .ok (.aload_n 0, 1) := by decide +kernel
theorem d_mo_readItem_145 : decode c_mo_readItem 145 = .ok (.getfield 224, 3) := by decide +kernel
theorem d_mo_readItem_148 : decode c_mo_readItem 148 = .ok (.ifCond .ne 32, 3) := by decide +kernel
theorem d_mo_readItem_151 : decode c_mo_readItem 151 = .ok (.iload 8, 2) := by decide +kernel
theorem d_mo_readItem_153 : decode c_mo_readItem 153 = .ok (.bipush 6, 2) := by decide +kernel
theorem d_mo_readItem_155 : decode c_mo_readItem 155 = .ok (.if_icmp .ne 25, 3) := by decide +kernel
theorem d_mo_readItem_158 : decode c_mo_readItem 158 = .ok (.aload_n 0, 1) := by decide +kernel
theorem d_mo_readItem_159 : decode c_mo_readItem 159 = .ok (.iload_n 1, 1) := by decide +kernel
theorem d_mo_readItem_160 : decode c_mo_readItem 160 = .ok (.aload_n 0, 1) := by decide +kernel
theorem d_mo_readItem_161 : decode c_mo_readItem 161 = .ok (.getfield 123, 3) := by decide +kernel
theorem d_mo_readItem_164 : decode c_mo_readItem 164 = .ok (.iload 7, 2) := by decide +kernel
theorem d_mo_readItem_166 : decode c_mo_readItem 166 = .ok (.iaload, 1) := by decide +kernel
theorem d_mo_readItem_167 : decode c_mo_readItem 167 = .ok (.aload_n 0, 1) := by decide +kernel
theorem d_mo_readItem_168 : decode c_mo_readItem 168 = .ok (.getfield 126, 3) := by decide +kernel
theorem d_mo_readItem_171 : decode c_mo_readItem 171 = .ok (.iload 7, 2) := by decide +kernel
theorem d_mo_readItem_173 : decode c_mo_readItem 173 = .ok (.iaload, 1) := by decide +kernel
theorem d_mo_readItem_174 : decode c_mo_readItem 174 = .ok (.invokevirtual 244, 3) := by decide +kernel
theorem d_mo_readItem_177 : decode c_mo_readItem 177 = .ok (.goto 281, 3) := by decide +kernel
theorem d_mo_readItem_180 : decode c_mo_readItem 180 = .ok (.aload_n 0, 1) := by decide +kernel
theorem d_mo_readItem_181 : decode c_mo_readItem 181 = .ok (.getfield 224, 3) := by decide +kernel
theorem d_mo_readItem_184 : decode c_mo_readItem 184 = .ok (.ifCond .ne 274, 3) := by decide +kernel
theorem d_mo_readItem_187 : decode c_mo_readItem 187 = .ok (.aload_n 0, 1) := by decide +kernel
theorem d_mo_readItem_188 : decode c_mo_readItem 188 = .ok (.getfield 126, 3) := by decide +kernel
theorem d_mo_readItem_191 : decode c_mo_readItem 191 = .ok (.iload 7, 2) := by decide +kernel
theorem d_mo_readItem_193 : decode c_mo_readItem 193 = .ok (.iaload, 1) := by decide +kernel
theorem d_mo_readItem_194 : decode c_mo_readItem 194 = .ok (.ifCond .le 264, 3) := by decide +kernel
theorem d_mo_readItem_197 : decode c_mo_readItem 197 = .ok (.aload_n 0, 1) := by decide +kernel
theorem d_mo_readItem_198 : decode c_mo_readItem 198 = .ok (.aload_n 0, 1) := by decide +kernel
theorem d_mo_readItem_199 : decode c_mo_readItem 199 = .ok (.getfield 28, 3) := by decide +kernel
theorem d_mo_readItem_202 : decode c_mo_readItem 202 = .ok (.bipush 6, 2) := by decide +kernel
theorem d_mo_readItem_204 : decode c_mo_readItem 204 = .ok (.iload_n 2, 1) := by decide +kernel
theorem d_mo_readItem_205 : decode c_mo_readItem 205 = .ok (.imul, 1) := by decide +kernel
theorem d_mo_readItem_206 : decode c_mo_readItem 206 = .ok (.iaload, 1) := by decide +kernel
theorem d_mo_readItem_207 : decode c_mo_readItem 207 = .ok (.aload_n 0, 1) := by decide +kernel
theorem d_mo_readItem_208 : decode c_mo_readItem 208 = .ok (.getfield 28, 3) := by decide +kernel
theorem d_mo_readItem_211 : decode c_mo_readItem 211 = .ok (.bipush 6, 2) := by decide +kernel
theorem d_mo_readItem_213 : decode c_mo_readItem 213 = .ok (.iload_n 3, 1) := by decide +kernel
theorem d_mo_readItem_214 : decode c_mo_readItem 214 = .ok (.imul, 1) := by decide +kernel
theorem d_mo_readItem_215 : decode c_mo_readItem 215 = .ok (.iaload, 1) := by decide +kernel
theorem d_mo_readItem_216 : decode c_mo_readItem 216 = .ok (.aload_n 0, 1) := by decide +kernel
theorem d_mo_readItem_217 : decode c_mo_readItem 217 = .ok (.getfield 126, 3) := by decide +kernel
theorem d_mo_readItem_220 : decode c_mo_readItem 220 = .ok (.iload 7, 2) := by decide +kernel
theorem d_mo_readItem_222 : decode c_mo_readItem 222 = .ok (.iaload, 1) := by decide +kernel
theorem d_mo_readItem_223 : decode c_mo_readItem 223 = .ok (.aload_n 0, 1) := by decide +kernel
theorem d_mo_readItem_224 : decode c_mo_readItem 224 = .ok (.getfield 123, 3) := by decide +kernel
theorem d_mo_readItem_227 : decode c_mo_readItem 227 = .ok (.iload 7, 2) := by decide +kernel
theorem d_mo_readItem_229 : decode c_mo_readItem 229 = .ok (.iaload, 1) := by decide +kernel
theorem d_mo_readItem_230 : decode c_mo_readItem 230 = .ok (.iload 7, 2) := by decide +kernel
theorem d_mo_readItem_232 : decode c_mo_readItem 232 = .ok (.iconst 0, 1) := by decide +kernel
theorem d_mo_readItem_233 : decode c_mo_readItem 233 = .ok (.invokevirtual 184, 3) := by decide +kernel
theorem d_mo_readItem_236 : decode c_mo_readItem 236 = .ok (.goto 222, 3) := by decide +kernel
theorem d_mo_readItem_239 : decode c_mo_readItem 239 = .ok (.iload 8, 2) := by decide +kernel
theorem d_mo_readItem_241 : decode c_mo_readItem 241 = .ok (.bipush 9, 2) := by decide +kernel
theorem d_mo_readItem_243 : decode c_mo_readItem 243 = .ok (.if_icmp .ne 85, 3) := by decide +kernel
theorem d_mo_readItem_246 : decode c_mo_readItem 246 = .ok (.aload_n 0, 1) := by decide +kernel
theorem d_mo_readItem_247 : decode c_mo_readItem 247 = .ok (.iload_n 2, 1) := by decide +kernel
theorem d_mo_readItem_248 : decode c_mo_readItem 248 = .ok (.iload_n 3, 1) := by decide +kernel
theorem d_mo_readItem_249 : decode c_mo_readItem 249 = .ok (.invokevirtual 191, 3) := by decide +kernel
theorem d_mo_readItem_252 : decode c_mo_readItem 252 = .ok (.iconst 1, 1) := by decide +kernel
theorem d_mo_readItem_253 : decode c_mo_readItem 253 = .ok (.isub, 1) := by decide +kernel
theorem d_mo_readItem_254 : decode c_mo_readItem 254 = .ok (.istore 9, 2) := by decide +kernel
theorem d_mo_readItem_256 : decode c_mo_readItem 256 = .ok (.iload 9, 2) := by decide +kernel
theorem d_mo_readItem_258 : decode c_mo_readItem 258 = .ok (.ifCond .lt 67, 3) := by decide +kernel
theorem d_mo_readItem_261 : decode c_mo_readItem 261 = .ok (.aload_n 0, 1) := by decide +kernel
theorem d_mo_readItem_262 : decode c_mo_readItem 262 = .ok (.aload_n 0, 1) := by decide +kernel
theorem d_mo_readItem_263 : decode c_mo_readItem 263 = .ok (.getfield 28, 3) := by decide +kernel
theorem d_mo_readItem_266 : decode c_mo_readItem 266 = .ok (.bipush 6, 2) := by decide +kernel
theorem d_mo_readItem_268 : decode c_mo_readItem 268 = .ok (.iload_n 2, 1) := by decide +kernel
theorem d_mo_readItem_269 : decode c_mo_readItem 269 = .ok (.imul, 1) := by decide +kernel
theorem d_mo_readItem_270 : decode c_mo_readItem 270 = .ok (.iload 9, 2) := by decide +kernel
theorem d_mo_readItem_272 : decode c_mo_readItem 272 = .ok (.iadd, 1) := by decide +kernel
theorem d_mo_readItem_273 : decode c_mo_readItem 273 = .ok (.iaload, 1) := by decide +kernel
theorem d_mo_readItem_274 : decode c_mo_readItem 274 = .ok (.aload_n 0, 1) := by decide +kernel
theorem d_mo_readItem_275 : decode c_mo_readItem 275 = .ok (.getfield 28, 3) := by decide +kernel
theorem d_mo_readItem_278 : decode c_mo_readItem 278 = .ok (.bipush 6, 2) := by decide +kernel
theorem d_mo_readItem_280 : decode c_mo_readItem 280 = .ok (.iload_n 3, 1) := by decide +kernel
theorem d_mo_readItem_281 : decode c_mo_readItem 281 = .ok (.imul, 1) := by decide +kernel
theorem d_mo_readItem_282 : decode c_mo_readItem 282 = .ok (.iload 9, 2) := by decide +kernel
theorem d_mo_readItem_284 : decode c_mo_readItem 284 = .ok (.iadd, 1) := by decide +kernel
theorem d_mo_readItem_285 : decode c_mo_readItem 285 = .ok (.iaload, 1) := by decide +kernel
theorem d_mo_readItem_286 : decode c_mo_readItem 286 = .ok (.iconst 1, 1) := by decide +kernel
theorem d_mo_readItem_287 : decode c_mo_readItem 287 = .ok (.iload 4, 2) := by decide +kernel
theorem d_mo_readItem_289 : decode c_mo_readItem 289 = .ok (.aload_n 0, 1) := by decide +kernel
theorem d_mo_readItem_290 : decode c_mo_readItem 290 = .ok (.getfield 31, 3) := by decide +kernel
theorem d_mo_readItem_293 : decode c_mo_readItem 293 = .ok (.bipush 6, 2) := by decide +kernel
theorem d_mo_readItem_295 : decode c_mo_readItem 295 = .ok (.iload_n 2, 1) := by decide +kernel
theorem d_mo_readItem_296 : decode c_mo_readItem 296 = .ok (.imul, 1) := by decide +kernel
theorem d_mo_readItem_297 : decode c_mo_readItem 297 = .ok (.iload 9, 2) := by decide +kernel
theorem d_mo_readItem_299 : decode c_mo_readItem 299 = .ok (.iadd, 1) := by decide +kernel
theorem d_mo_readItem_300 : decode c_mo_readItem 300 = .ok (.iaload, 1) := by decide +kernel
theorem d_mo_readItem_301 : decode c_mo_readItem 301 = .ok (.iadd, 1) := by decide +kernel
theorem d_mo_readItem_302 : decode c_mo_readItem 302 = .ok (.iload 7, 2) := by decide +kernel
theorem d_mo_readItem_304 : decode c_mo_readItem 304 = .ok (.aload_n 0, 1) := by decide +kernel
theorem d_mo_readItem_305 : decode c_mo_readItem 305 = .ok (.getfield 31, 3) := by decide +kernel
theorem d_mo_readItem_308 : decode c_mo_readItem 308 = .ok (.bipush 6, 2) := by decide +kernel
theorem d_mo_readItem_310 : decode c_mo_readItem 310 = .ok (.iload_n 3, 1) := by decide +kernel
theorem d_mo_readItem_311 : decode c_mo_readItem 311 = .ok (.imul, 1) := by decide +kernel
theorem d_mo_readItem_312 : decode c_mo_readItem 312 = .ok (.iload 9, 2) := by decide +kernel
theorem d_mo_readItem_314 : decode c_mo_readItem 314 = .ok (.iadd, 1) := by decide +kernel
theorem d_mo_readItem_315 : decode c_mo_readItem 315 = .ok (.iaload, 1) := by decide +kernel
theorem d_mo_readItem_316 : decode c_mo_readItem 316 = .ok (.invokevirtual 184, 3) := by decide +kernel
theorem d_mo_readItem_319 : decode c_mo_readItem 319 = .ok (.iinc 9 (-1), 3) := by decide +kernel
theorem d_mo_readItem_322 : decode c_mo_readItem 322 = .ok (.goto (-66), 3) := by decide +kernel
theorem d_mo_readItem_325 : decode c_mo_readItem 325 = .ok (.goto 133, 3) := by decide +kernel
theorem d_mo_readItem_328 : decode c_mo_readItem 328 = .ok (.iload 8, 2) := by decide +kernel
theorem d_mo_readItem_330 : decode c_mo_readItem 330 = .ok (.bipush 10, 2) := by decide +kernel
theorem d_mo_readItem_332 : decode c_mo_readItem 332 = .ok (.if_icmp .ne 98, 3) := by decide +kernel
theorem d_mo_readItem_335 : decode c_mo_readItem 335 = .ok (.aload_n 0, 1) := by decide +kernel
theorem d_mo_readItem_336 : decode c_mo_readItem 336 = .ok (.iload_n 1, 1) := by decide +kernel
theorem d_mo_readItem_337 : decode c_mo_readItem 337 = .ok (.iload 4, 2) := by decide +kernel
theorem d_mo_readItem_339 : decode c_mo_readItem 339 = .ok (.invokevirtual 234, 3) := by decide +kernel
theorem d_mo_readItem_342 : decode c_mo_readItem 342 = .ok (.istore 9, 2) := by decide +kernel
theorem d_mo_readItem_344 : decode c_mo_readItem 344 = .ok (.iload 9, 2) := by decide +kernel
theorem d_mo_readItem_346 : decode c_mo_readItem 346 = .ok (.aload_n 0, 1) := by decide +kernel
theorem d_mo_readItem_347 : decode c_mo_readItem 347 = .ok (.getfield 25, 3) := by decide +kernel
theorem d_mo_readItem_350 : decode c_mo_readItem 350 = .ok (.iload_n 2, 1) := by decide +kernel
theorem d_mo_readItem_351 : decode c_mo_readItem 351 = .ok (.iaload, 1) := by decide +kernel
theorem d_mo_readItem_352 : decode c_mo_readItem 352 = .ok (.if_icmp .lt 10, 3) := by decide +kernel
theorem d_mo_readItem_355 : decode c_mo_readItem 355 = .ok (.aload_n 0, 1) := by decide +kernel
theorem d_mo_readItem_356 : decode c_mo_readItem 356 = .ok (.iconst 2, 1) := by decide +kernel
theorem d_mo_readItem_357 : decode c_mo_readItem 357 = .ok (.iload 4, 2) := by decide +kernel
theorem d_mo_readItem_359 : decode c_mo_readItem 359 = .ok (.invokevirtual 230, 3) := by decide +kernel
theorem d_mo_readItem_362 : decode c_mo_readItem 362 = .ok (.aload_n 0, 1) := by decide +kernel
theorem d_mo_readItem_363 : decode c_mo_readItem 363 = .ok (.getfield 224, 3) := by decide +kernel
theorem d_mo_readItem_366 : decode c_mo_readItem 366 = .ok (.ifCond .ne 61, 3) := by decide +kernel
theorem d_mo_readItem_369 : decode c_mo_readItem 369 = .ok (.aload_n 0, 1) := by decide +kernel
theorem d_mo_readItem_370 : decode c_mo_readItem 370 = .ok (.aload_n 0, 1) := by decide +kernel
theorem d_mo_readItem_371 : decode c_mo_readItem 371 = .ok (.getfield 28, 3) := by decide +kernel
theorem d_mo_readItem_374 : decode c_mo_readItem 374 = .ok (.bipush 6, 2) := by decide +kernel
theorem d_mo_readItem_376 : decode c_mo_readItem 376 = .ok (.iload_n 2, 1) := by decide +kernel
theorem d_mo_readItem_377 : decode c_mo_readItem 377 = .ok (.imul, 1) := by decide +kernel
theorem d_mo_readItem_378 : decode c_mo_readItem 378 = .ok (.iload 9, 2) := by decide +kernel
theorem d_mo_readItem_380 : decode c_mo_readItem 380 = .ok (.iadd, 1) := by decide +kernel
theorem d_mo_readItem_381 : decode c_mo_readItem 381 = .ok (.iaload, 1) := by decide +kernel
theorem d_mo_readItem_382 : decode c_mo_readItem 382 = .ok (.aload_n 0, 1) := by decide +kernel
theorem d_mo_readItem_383 : decode c_mo_readItem 383 = .ok (.getfield 28, 3) := by decide +kernel
theorem d_mo_readItem_386 : decode c_mo_readItem 386 = .ok (.bipush 6, 2) := by decide +kernel
theorem d_mo_readItem_388 : decode c_mo_readItem 388 = .ok (.iload_n 3, 1) := by decide +kernel
theorem d_mo_readItem_389 : decode c_mo_readItem 389 = .ok (.imul, 1) := by decide +kernel
theorem d_mo_readItem_390 : decode c_mo_readItem 390 = .ok (.iload 9, 2) := by decide +kernel
theorem d_mo_readItem_392 : decode c_mo_readItem 392 = .ok (.iadd, 1) := by decide +kernel
theorem d_mo_readItem_393 : decode c_mo_readItem 393 = .ok (.iaload, 1) := by decide +kernel
theorem d_mo_readItem_394 : decode c_mo_readItem 394 = .ok (.iconst 1, 1) := by decide +kernel
theorem d_mo_readItem_395 : decode c_mo_readItem 395 = .ok (.iload 4, 2) := by decide +kernel
theorem d_mo_readItem_397 : decode c_mo_readItem 397 = .ok (.aload_n 0, 1) := by decide +kernel
theorem d_mo_readItem_398 : decode c_mo_readItem 398 = .ok (.getfield 31, 3) := by decide +kernel
theorem d_mo_readItem_401 : decode c_mo_readItem 401 = .ok (.bipush 6, 2) := by decide +kernel
theorem d_mo_readItem_403 : decode c_mo_readItem 403 = .ok (.iload_n 2, 1) := by decide +kernel
theorem d_mo_readItem_404 : decode c_mo_readItem 404 = .ok (.imul, 1) := by decide +kernel
theorem d_mo_readItem_405 : decode c_mo_readItem 405 = .ok (.iload 9, 2) := by decide +kernel
theorem d_mo_readItem_407 : decode c_mo_readItem 407 = .ok (.iadd, 1) := by decide +kernel
theorem d_mo_readItem_408 : decode c_mo_readItem 408 = .ok (.iaload, 1) := by decide +kernel
theorem d_mo_readItem_409 : decode c_mo_readItem 409 = .ok (.iadd, 1) := by decide +kernel
theorem d_mo_readItem_410 : decode c_mo_readItem 410 = .ok (.iload 7, 2) := by decide +kernel
theorem d_mo_readItem_412 : decode c_mo_readItem 412 = .ok (.aload_n 0, 1) := by decide +kernel
theorem d_mo_readItem_413 : decode c_mo_readItem 413 = .ok (.getfield 31, 3) := by decide +kernel
theorem d_mo_readItem_416 : decode c_mo_readItem 416 = .ok (.bipush 6, 2) := by decide +kernel
theorem d_mo_readItem_418 : decode c_mo_readItem 418 = .ok (.iload_n 3, 1) := by decide +kernel
theorem d_mo_readItem_419 : decode c_mo_readItem 419 = .ok (.imul, 1) := by decide +kernel
theorem d_mo_readItem_420 : decode c_mo_readItem 420 = .ok (.iload 9, 2) := by decide +kernel
theorem d_mo_readItem_422 : decode c_mo_readItem 422 = .ok (.iadd, 1) := by decide +kernel
theorem d_mo_readItem_423 : decode c_mo_readItem 423 = .ok (.iaload, 1) := by decide +kernel
theorem d_mo_readItem_424 : decode c_mo_readItem 424 = .ok (.invokevirtual 184, 3) := by decide +kernel
theorem d_mo_readItem_427 : decode c_mo_readItem 427 = .ok (.goto 31, 3) := by decide +kernel
theorem d_mo_readItem_430 : decode c_mo_readItem 430 = .ok (.iload 8, 2) := by decide +kernel
theorem d_mo_readItem_432 : decode c_mo_readItem 432 = .ok (.bipush 10, 2) := by decide +kernel
theorem d_mo_readItem_434 : decode c_mo_readItem 434 = .ok (.if_icmp .le 16, 3) := by decide +kernel
theorem d_mo_readItem_437 : decode c_mo_readItem 437 = .ok (.aload_n 0, 1) := by decide +kernel
theorem d_mo_readItem_438 : decode c_mo_readItem 438 = .ok (.iload_n 1, 1) := by decide +kernel
theorem d_mo_readItem_439 : decode c_mo_readItem 439 = .ok (.iload_n 2, 1) := by decide +kernel
theorem d_mo_readItem_440 : decode c_mo_readItem 440 = .ok (.iload 4, 2) := by decide +kernel
theorem d_mo_readItem_442 : decode c_mo_readItem 442 = .ok (.iload 7, 2) := by decide +kernel
theorem d_mo_readItem_444 : decode c_mo_readItem 444 = .ok (.invokevirtual 247, 3) := by decide +kernel
theorem d_mo_readItem_447 : decode c_mo_readItem 447 = .ok (.goto 11, 3) := by decide +kernel
theorem d_mo_readItem_450 : decode c_mo_readItem 450 = .ok (.aload_n 0, 1) := by decide +kernel
theorem d_mo_readItem_451 : decode c_mo_readItem 451 = .ok (.iload_n 1, 1) := by decide +kernel
theorem d_mo_readItem_452 : decode c_mo_readItem 452 = .ok (.iload_n 2, 1) := by decide +kernel
theorem d_mo_readItem_453 : decode c_mo_readItem 453 = .ok (.iload 4, 2) := by decide +kernel
theorem d_mo_readItem_455 : decode c_mo_readItem 455 = .ok (.invokevirtual 251, 3) := by decide +kernel
theorem d_mo_readItem_458 : decode c_mo_readItem 458 = .ok (.return_, 1) := by decide +kernel
theorem d_mo_readAll_0 : decode c_mo_readAll 0 = .ok (.aload_n 0, 1) := by decide +kernel
theorem d_mo_readAll_1 : decode c_mo_readAll 1 = .ok (.iconst 0, 1) := by decide +kernel
theorem d_mo_readAll_2 : decode c_mo_readAll 2 = .ok (.putfield 181, 3) := by decide +kernel
theorem d_mo_readAll_5 : decode c_mo_readAll 5 = .ok (.aload_n 0, 1) := by decide +kernel
theorem d_mo_readAll_6 : decode c_mo_readAll 6 = .ok (.iconst 0, 1) := by decide +kernel
theorem d_mo_readAll_7 : decode c_mo_readAll 7 = .ok (.putfield 237, 3) := by decide +kernel
theorem d_mo_readAll_10 : decode c_mo_readAll 10 = .ok (.aload_n 0, 1) := by decide +kernel
theorem d_mo_readAll_11 : decode c_mo_readAll 11 = .ok (.iload_n 2, 1) := by decide +kernel
theorem d_mo_readAll_12 : decode c_mo_readAll 12 = .ok (.iload 4, 2) := by decide +kernel
theorem d_mo_readAll_14 : decode c_mo_readAll 14 = .ok (.iconst 1, 1) := by decide +kernel
theorem d_mo_readAll_15 : decode c_mo_readAll 15 = .ok (.iload_n 3, 1) := by decide +kernel
theorem d_mo_readAll_16 : decode c_mo_readAll 16 = .ok (.iconst (-1), 1) := by decide +kernel
theorem d_mo_readAll_17 : decode c_mo_readAll 17 = .ok (.iconst 0, 1) := by decide +kernel
theorem d_mo_readAll_18 : decode c_mo_readAll 18 = .ok (.invokevirtual 184, 3) := by decide +kernel
theorem d_mo_readAll_21 : decode c_mo_readAll 21 = .ok (.aload_n 0, 1) := by decide +kernel
theorem d_mo_readAll_22 : decode c_mo_readAll 22 = .ok (.getfield 181, 3) := by decide +kernel
theorem d_mo_readAll_25 : decode c_mo_readAll 25 = .ok (.ifCond .le 149, 3) := by decide +kernel
theorem d_mo_readAll_28 : decode c_mo_readAll 28 = .ok (.aload_n 0, 1) := by decide +kernel
theorem d_mo_readAll_29 : decode c_mo_readAll 29 = .ok (.getfield 224, 3) := by decide +kernel
theorem d_mo_readAll_32 : decode c_mo_readAll 32 = .ok (.ifCond .ne 142, 3) := by decide +kernel
theorem d_mo_readAll_35 : decode c_mo_readAll 35 = .ok (.aload_n 0, 1) := by decide +kernel
theorem d_mo_readAll_36 : decode c_mo_readAll 36 = .ok (.getfield 181, 3) := by decide +kernel
theorem d_mo_readAll_39 : decode c_mo_readAll 39 = .ok (.iconst 1, 1) := by decide +kernel
theorem d_mo_readAll_40 : decode c_mo_readAll 40 = .ok (.isub, 1) := by decide +kernel
theorem d_mo_readAll_41 : decode c_mo_readAll 41 = .ok (.istore 5, 2) := by decide +kernel
theorem d_mo_readAll_43 : decode c_mo_readAll 43 = .ok (.aload_n 0, 1) := by decide +kernel
theorem d_mo_readAll_44 : decode c_mo_readAll 44 = .ok (.getfield 93, 3) := by decide +kernel
theorem d_mo_readAll_47 : decode c_mo_readAll 47 = .ok (.iload 5, 2) := by decide +kernel
theorem d_mo_readAll_49 : decode c_mo_readAll 49 = .ok (.iaload, 1) := by decide +kernel
theorem d_mo_readAll_50 : decode c_mo_readAll 50 = .ok (.istore 6, 2) := by decide +kernel
theorem d_mo_readAll_52 : decode c_mo_readAll 52 = .ok (.aload_n 0, 1) := by decide +kernel
theorem d_mo_readAll_53 : decode c_mo_readAll 53 = .ok (.getfield 96, 3) := by decide +kernel
theorem d_mo_readAll_56 : decode c_mo_readAll 56 = .ok (.iload 5, 2) := by decide +kernel
theorem d_mo_readAll_58 : decode c_mo_readAll 58 = .ok (.iaload, 1) := by decide +kernel
theorem d_mo_readAll_59 : decode c_mo_readAll 59 = .ok (.istore 7, 2) := by decide +kernel
theorem d_mo_readAll_61 : decode c_mo_readAll 61 = .ok (.aload_n 0, 1) := by decide +kernel
theorem d_mo_readAll_62 : decode c_mo_readAll 62 = .ok (.getfield 102, 3) := by decide +kernel
theorem d_mo_readAll_65 : decode c_mo_readAll 65 = .ok (.iload 5, 2) := by decide +kernel
theorem d_mo_readAll_67 : decode c_mo_readAll 67 = .ok (.iaload, 1) := by decide +kernel
theorem d_mo_readAll_68 : decode c_mo_readAll 68 = .ok (.istore 8, 2) := by decide +kernel
theorem d_mo_readAll_70 : decode c_mo_readAll 70 = .ok (.aload_n 0, 1) := by decide +kernel
theorem d_mo_readAll_71 : decode c_mo_readAll 71 = .ok (.getfield 105, 3) := by decide +kernel
theorem d_mo_readAll_74 : decode c_mo_readAll 74 = .ok (.iload 5, 2) := by decide +kernel
theorem d_mo_readAll_76 : decode c_mo_readAll 76 = .ok (.iaload, 1) := by decide +kernel
theorem d_mo_readAll_77 : decode c_mo_readAll 77 = .ok (.istore 9, 2) := by decide +kernel
theorem d_mo_readAll_79 : decode c_mo_readAll 79 = .ok (.aload_n 0, 1) := by decide +kernel
theorem d_mo_readAll_80 : decode c_mo_readAll 80 = .ok (.getfield 108, 3) := by decide +kernel
theorem d_mo_readAll_83 : decode c_mo_readAll 83 = .ok (.iload 5, 2) := by decide +kernel
theorem d_mo_readAll_85 : decode c_mo_readAll 85 = .ok (.iaload, 1) := by decide +kernel
theorem d_mo_readAll_86 : decode c_mo_readAll 86 = .ok (.istore 10, 2) := by decide +kernel
theorem d_mo_readAll_88 : decode c_mo_readAll 88 = .ok (.aload_n 0, 1) := by decide +kernel
theorem d_mo_readAll_89 : decode c_mo_readAll 89 = .ok (.getfield 99, 3) := by decide +kernel
theorem d_mo_readAll_92 : decode c_mo_readAll 92 = .ok (.iload 5, 2) := by decide +kernel
theorem d_mo_readAll_94 : decode c_mo_readAll 94 = .ok (.dup2, 1) := by decide +kernel
theorem d_mo_readAll_95 : decode c_mo_readAll 95 = .ok (.iaload, 1) := by decide +kernel
theorem d_mo_readAll_96 : decode c_mo_readAll 96 = .ok (.iconst 1, 1) := by decide +kernel
theorem d_mo_readAll_97 : decode c_mo_readAll 97 = .ok (.isub, 1) := by decide +kernel
theorem d_mo_readAll_98 : decode c_mo_readAll 98 = .ok (.iastore, 1) := by decide +kernel
theorem d_mo_readAll_99 : decode c_mo_readAll 99 = .ok (.aload_n 0, 1) := by decide +kernel
theorem d_mo_readAll_100 : decode c_mo_readAll 100 = .ok (.getfield 102, 3) := by decide +kernel
theorem d_mo_readAll_103 : decode c_mo_readAll 103 = .ok (.iload 5, 2) := by decide +kernel
theorem d_mo_readAll_105 : decode c_mo_readAll 105 = .ok (.iload 8, 2) := by decide +kernel
theorem d_mo_readAll_107 : decode c_mo_readAll 107 = .ok (.aload_n 0, 1) := by decide +kernel
theorem d_mo_readAll_108 : decode c_mo_readAll 108 = .ok (.getfield 16, 3) := by decide +kernel
theorem d_mo_readAll_111 : decode c_mo_readAll 111 = .ok (.iload 6, 2) := by decide +kernel
theorem d_mo_readAll_113 : decode c_mo_readAll 113 = .ok (.iaload, 1) := by decide +kernel
theorem d_mo_readAll_114 : decode c_mo_readAll 114 = .ok (.iadd, 1) := by decide +kernel
theorem d_mo_readAll_115 : decode c_mo_readAll 115 = .ok (.iastore, 1) := by decide +kernel
theorem d_mo_readAll_116 : decode c_mo_readAll 116 = .ok (.aload_n 0, 1) := by decide +kernel
theorem d_mo_readAll_117 : decode c_mo_readAll 117 = .ok (.getfield 108, 3) := by decide +kernel
theorem d_mo_readAll_120 : decode c_mo_readAll 120 = .ok (.iload 5, 2) := by decide +kernel
theorem d_mo_readAll_122 : decode c_mo_readAll 122 = .ok (.iload 10, 2) := by decide +kernel
theorem d_mo_readAll_124 : decode c_mo_readAll 124 = .ok (.aload_n 0, 1) := by decide +kernel
theorem d_mo_readAll_125 : decode c_mo_readAll 125 = .ok (.getfield 16, 3) := by decide +kernel
theorem d_mo_readAll_128 : decode c_mo_readAll 128 = .ok (.iload 7, 2) := by decide +kernel
theorem d_mo_readAll_130 : decode c_mo_readAll 130 = .ok (.iaload, 1) := by decide +kernel
theorem d_mo_readAll_131 : decode c_mo_readAll 131 = .ok (.iadd, 1) := by decide +kernel
theorem d_mo_readAll_132 : decode c_mo_readAll 132 = .ok (.iastore, 1) := by decide +kernel
theorem d_mo_readAll_133 : decode c_mo_readAll 133 = .ok (.aload_n 0, 1) := by decide +kernel
theorem d_mo_readAll_134 : decode c_mo_readAll 134 = .ok (.aload_n 0, 1) := by decide +kernel
theorem d_mo_readAll_135 : decode c_mo_readAll 135 = .ok (.getfield 99, 3) := by decide +kernel
theorem d_mo_readAll_138 : decode c_mo_readAll 138 = .ok (.iload 5, 2) := by decide +kernel
theorem d_mo_readAll_140 : decode c_mo_readAll 140 = .ok (.iaload, 1) := by decide +kernel
theorem d_mo_readAll_141 : decode c_mo_readAll 141 = .ok (.ifCond .ne 8, 3) := by decide +kernel
theorem d_mo_readAll_144 : decode c_mo_readAll 144 = .ok (.iload 5, 2) := by decide +kernel
theorem d_mo_readAll_146 : decode c_mo_readAll 146 = .ok (.goto 7, 3) := by decide +kernel
theorem d_mo_readAll_149 : decode c_mo_readAll 149 = .ok (.aload_n 0, 1) := by decide +kernel
theorem d_mo_readAll_150 : decode c_mo_readAll 150 = .ok (.getfield 181, 3) := by decide +kernel
theorem d_mo_readAll_153 : decode c_mo_readAll 153 = .ok (.putfield 181, 3) := by decide +kernel
theorem d_mo_readAll_156 : decode c_mo_readAll 156 = .ok (.aload_n 0, 1) := by decide +kernel
theorem d_mo_readAll_157 : decode c_mo_readAll 157 = .ok (.iload_n 1, 1) := by decide +kernel
theorem d_mo_readAll_158 : decode c_mo_readAll 158 = .ok (.iload 6, 2) := by decide +kernel
theorem d_mo_readAll_160 : decode c_mo_readAll 160 = .ok (.iload 7, 2) := by decide +kernel
theorem d_mo_readAll_162 : decode c_mo_readAll 162 = .ok (.iload 8, 2) := by decide +kernel
theorem d_mo_readAll_164 : decode c_mo_readAll 164 = .ok (.iload 9, 2) := by decide +kernel
theorem d_mo_readAll_166 : decode c_mo_readAll 166 = .ok (.iload 10, 2) := by decide +kernel
theorem d_mo_readAll_168 : decode c_mo_readAll 168 = .ok (.invokevirtual 257, 3) := by decide +kernel
theorem d_mo_readAll_171 : decode c_mo_readAll 171 = .ok (.goto (-150), 3) := by decide +kernel
theorem d_mo_readAll_174 : decode c_mo_readAll 174 = .ok (.return_, 1) := by decide +kernel
