theorem d_fu_init_0 : decode c_fu_init 0 = .ok (.aload_n 0, 1) := by decide +kernel
theorem d_fu_init_1 : decode c_fu_init 1 = .ok (.invokespecial 1, 3) := by decide +kernel
theorem d_fu_init_4 : decode c_fu_init 4 = .ok (.aload_n 0, 1) := by decide +kernel
theorem d_fu_init_5 : decode c_fu_init 5 = .ok (.iload_n 1, 1) := by decide +kernel
theorem d_fu_init_6 : decode c_fu_init 6 = .ok (.putfield 7, 3) := by decide +kernel
theorem d_fu_init_9 : decode c_fu_init 9 = .ok (.aload_n 0, 1) := by decide +kernel
theorem d_fu_init_10 : decode c_fu_init 10 = .ok (.aload_n 2, 1) := by decide +kernel
theorem d_fu_init_11 : decode c_fu_init 11 = .ok (.putfield 13, 3) := by decide +kernel
theorem d_fu_init_14 : decode c_fu_init 14 = .ok (.aload_n 0, 1) := by decide +kernel
theorem d_fu_init_15 : decode c_fu_init 15 = .ok (.aload_n 3, 1) := by decide +kernel
theorem d_fu_init_16 : decode c_fu_init 16 = .ok (.putfield 17, 3) := by decide +kernel
theorem d_fu_init_19 : decode c_fu_init 19 = .ok (.return_, 1) := by decide +kernel
theorem d_ha_init_0 : decode c_ha_init 0 = .ok (.aload_n 0, 1) := by decide +kernel
theorem d_ha_init_1 : decode c_ha_init 1 = .ok (.invokespecial 3, 3) := by decide +kernel
theorem d_ha_init_4 : decode c_ha_init 4 = .ok (.aload_n 0, 1) := by decide +kernel
theorem d_ha_init_5 : decode c_ha_init 5 = .ok (.iconst (-1), 1) := by decide +kernel
theorem d_ha_init_6 : decode c_ha_init 6 = .ok (.putfield 9, 3) := by decide +kernel
theorem d_ha_init_9 : decode c_ha_init 9 = .ok (.aload_n 0, 1) := by decide +kernel
theorem d_ha_init_10 : decode c_ha_init 10 = .ok (.iconst 0, 1) := by decide +kernel
theorem d_ha_init_11 : decode c_ha_init 11 = .ok (.putfield 15, 3) := by decide +kernel
theorem d_ha_init_14 : decode c_ha_init 14 = .ok (.aload_n 0, 1) := by decide +kernel
theorem d_ha_init_15 : decode c_ha_init 15 = .ok (.iconst 0, 1) := by decide +kernel
theorem d_ha_init_16 : decode c_ha_init 16 = .ok (.putfield 18, 3) := by decide +kernel
theorem d_ha_init_19 : decode c_ha_init 19 = .ok (.aload_n 0, 1) := by decide +kernel
theorem d_ha_init_20 : decode c_ha_init 20 = .ok (.getstatic 21, 3) := by decide +kernel
theorem d_ha_init_23 : decode c_ha_init 23 = .ok (.putfield 27, 3) := by decide +kernel
theorem d_ha_init_26 : decode c_ha_init 26 = .ok (.aload_n 0, 1) := by decide +kernel
theorem d_ha_init_27 : decode c_ha_init 27 = .ok (.aconst_null, 1) := by decide +kernel
theorem d_ha_init_28 : decode c_ha_init 28 = .ok (.putfield 30, 3) := by decide +kernel
theorem d_ha_init_31 : decode c_ha_init 31 = .ok (.return_, 1) := by decide +kernel
theorem d_in_init_0 : decode c_in_init 0 = .ok (.aload_n 0, 1) := by decide +kernel
theorem d_in_init_1 : decode c_in_init 1 = .ok (.invokespecial 3, 3) := by decide +kernel
theorem d_in_init_4 : decode c_in_init 4 = .ok (.aload_n 0, 1) := by decide +kernel
theorem d_in_init_5 : decode c_in_init 5 = .ok (.sipush 256, 3) := by decide +kernel
theorem d_in_init_8 : decode c_in_init 8 = .ok (.newarray .int, 2) := by decide +kernel
theorem d_in_init_10 : decode c_in_init 10 = .ok (.putfield 9, 3) := by decide +kernel
theorem d_in_init_13 : decode c_in_init 13 = .ok (.aload_n 0, 1) := by decide +kernel
theorem d_in_init_14 : decode c_in_init 14 = .ok (.bipush 16, 2) := by decide +kernel
theorem d_in_init_16 : decode c_in_init 16 = .ok (.anewarray 15, 3) := by decide +kernel
theorem d_in_init_19 : decode c_in_init 19 = .ok (.putfield 17, 3) := by decide +kernel
theorem d_in_init_22 : decode c_in_init 22 = .ok (.aload_n 0, 1) := by decide +kernel
theorem d_in_init_23 : decode c_in_init 23 = .ok (.sipush 128, 3) := by decide +kernel
theorem d_in_init_26 : decode c_in_init 26 = .ok (.putfield 21, 3) := by decide +kernel
theorem d_in_init_29 : decode c_in_init 29 = .ok (.aload_n 0, 1) := by decide +kernel
theorem d_in_init_30 : decode c_in_init 30 = .ok (.iconst 0, 1) := by decide +kernel
theorem d_in_init_31 : decode c_in_init 31 = .ok (.putfield 25, 3) := by decide +kernel
theorem d_in_init_34 : decode c_in_init 34 = .ok (.iconst 0, 1) := by decide +kernel
theorem d_in_init_35 : decode c_in_init 35 = .ok (.istore_n 1, 1) := by decide +kernel
theorem d_in_init_36 : decode c_in_init 36 = .ok (.iload_n 1, 1) := by decide +kernel
theorem d_in_init_37 : decode c_in_init 37 = .ok (.bipush 16, 2) := by decide +kernel
theorem d_in_init_39 : decode c_in_init 39 = .ok (.if_icmp .ge 22, 3) := by decide +kernel
theorem d_in_init_42 : decode c_in_init 42 = .ok (.aload_n 0, 1) := by decide +kernel
theorem d_in_init_43 : decode c_in_init 43 = .ok (.getfield 17, 3) := by decide +kernel
theorem d_in_init_46 : decode c_in_init 46 = .ok (.iload_n 1, 1) := by decide +kernel
theorem d_in_init_47 : decode c_in_init 47 = .ok (.new 15, 3) := by decide +kernel
theorem d_in_init_50 : decode c_in_init 50 = .ok (.dup, 1) := by decide +kernel
theorem d_in_init_51 : decode c_in_init 51 = .ok (.invokespecial 28, 3) := by decide +kernel
theorem d_in_init_54 : decode c_in_init 54 = .ok (.aastore, 1) := by decide +kernel
theorem d_in_init_55 : decode c_in_init 55 = .ok (.iinc 1 1, 3) := by decide +kernel
theorem d_in_init_58 : decode c_in_init 58 = .ok (.goto (-22), 3) := by decide +kernel
theorem d_in_init_61 : decode c_in_init 61 = .ok (.return_, 1) := by decide +kernel
theorem d_ty_init_0 : decode c_ty_init 0 = .ok (.aload_n 0, 1) := by decide +kernel
theorem d_ty_init_1 : decode c_ty_init 1 = .ok (.invokespecial 3, 3) := by decide +kernel
theorem d_ty_init_4 : decode c_ty_init 4 = .ok (.aload_n 0, 1) := by decide +kernel
theorem d_ty_init_5 : decode c_ty_init 5 = .ok (.iload_n 1, 1) := by decide +kernel
theorem d_ty_init_6 : decode c_ty_init 6 = .ok (.putfield 9, 3) := by decide +kernel
theorem d_ty_init_9 : decode c_ty_init 9 = .ok (.aload_n 0, 1) := by decide +kernel
theorem d_ty_init_10 : decode c_ty_init 10 = .ok (.iload_n 2, 1) := by decide +kernel
theorem d_ty_init_11 : decode c_ty_init 11 = .ok (.putfield 15, 3) := by decide +kernel
theorem d_ty_init_14 : decode c_ty_init 14 = .ok (.aload_n 0, 1) := by decide +kernel
theorem d_ty_init_15 : decode c_ty_init 15 = .ok (.iload 4, 2) := by decide +kernel
theorem d_ty_init_17 : decode c_ty_init 17 = .ok (.putfield 18, 3) := by decide +kernel
theorem d_ty_init_20 : decode c_ty_init 20 = .ok (.aload_n 0, 1) := by decide +kernel
theorem d_ty_init_21 : decode c_ty_init 21 = .ok (.iload 4, 2) := by decide +kernel
theorem d_ty_init_23 : decode c_ty_init 23 = .ok (.anewarray 10, 3) := by decide +kernel
theorem d_ty_init_26 : decode c_ty_init 26 = .ok (.putfield 21, 3) := by decide +kernel
theorem d_ty_init_29 : decode c_ty_init 29 = .ok (.aload_n 0, 1) := by decide +kernel
theorem d_ty_init_30 : decode c_ty_init 30 = .ok (.iload 4, 2) := by decide +kernel
theorem d_ty_init_32 : decode c_ty_init 32 = .ok (.newarray .int, 2) := by decide +kernel
theorem d_ty_init_34 : decode c_ty_init 34 = .ok (.putfield 25, 3) := by decide +kernel
theorem d_ty_init_37 : decode c_ty_init 37 = .ok (.iconst 0, 1) := by decide +kernel
theorem d_ty_init_38 : decode c_ty_init 38 = .ok (.istore 5, 2) := by decide +kernel
theorem d_ty_init_40 : decode c_ty_init 40 = .ok (.iconst 1, 1) := by decide +kernel
theorem d_ty_init_41 : decode c_ty_init 41 = .ok (.istore 6, 2) := by decide +kernel
theorem d_ty_init_43 : decode c_ty_init 43 = .ok (.iload_n 1, 1) := by decide +kernel
theorem d_ty_init_44 : decode c_ty_init 44 = .ok (.bipush 12, 2) := by decide +kernel
theorem d_ty_init_46 : decode c_ty_init 46 = .ok (.if_icmp .ne 7, 3) := by decide +kernel
theorem d_ty_init_49 : decode c_ty_init 49 = .ok (.iconst 1, 1) := by decide +kernel
theorem d_ty_init_50 : decode c_ty_init 50 = .ok (.goto 4, 3) := by decide +kernel
theorem d_ty_init_53 : decode c_ty_init 53 = .ok (.iconst 0, 1) := by decide +kernel
theorem d_ty_init_54 : decode c_ty_init 54 = .ok (.istore 7, 2) := by decide +kernel
theorem d_ty_init_56 : decode c_ty_init 56 = .ok (.iconst 0, 1) := by decide +kernel
theorem d_ty_init_57 : decode c_ty_init 57 = .ok (.istore 8, 2) := by decide +kernel
theorem d_ty_init_59 : decode c_ty_init 59 = .ok (.iload 8, 2) := by decide +kernel
theorem d_ty_init_61 : decode c_ty_init 61 = .ok (.iload 4, 2) := by decide +kernel
theorem d_ty_init_63 : decode c_ty_init 63 = .ok (.if_icmp .ge 79, 3) := by decide +kernel
theorem d_ty_init_66 : decode c_ty_init 66 = .ok (.aload_n 0, 1) := by decide +kernel
theorem d_ty_init_67 : decode c_ty_init 67 = .ok (.getfield 21, 3) := by decide +kernel
theorem d_ty_init_70 : decode c_ty_init 70 = .ok (.iload 8, 2) := by decide +kernel
theorem d_ty_init_72 : decode c_ty_init 72 = .ok (.aload_n 3, 1) := by decide +kernel
theorem d_ty_init_73 : decode c_ty_init 73 = .ok (.iload 8, 2) := by decide +kernel
theorem d_ty_init_75 : decode c_ty_init 75 = .ok (.aaload, 1) := by decide +kernel
theorem d_ty_init_76 : decode c_ty_init 76 = .ok (.aastore, 1) := by decide +kernel
theorem d_ty_init_77 : decode c_ty_init 77 = .ok (.iload 5, 2) := by decide +kernel
theorem d_ty_init_79 : decode c_ty_init 79 = .ok (.aload_n 0, 1) := by decide +kernel
theorem d_ty_init_80 : decode c_ty_init 80 = .ok (.getfield 21, 3) := by decide +kernel
theorem d_ty_init_83 : decode c_ty_init 83 = .ok (.iload 8, 2) := by decide +kernel
theorem d_ty_init_85 : decode c_ty_init 85 = .ok (.aaload, 1) := by decide +kernel
theorem d_ty_init_86 : decode c_ty_init 86 = .ok (.getfield 29, 3) := by decide +kernel
theorem d_ty_init_89 : decode c_ty_init 89 = .ok (.invokestatic 32, 3) := by decide +kernel
theorem d_ty_init_92 : decode c_ty_init 92 = .ok (.istore 5, 2) := by decide +kernel
theorem d_ty_init_94 : decode c_ty_init 94 = .ok (.iload 6, 2) := by decide +kernel
theorem d_ty_init_96 : decode c_ty_init 96 = .ok (.aload_n 0, 1) := by decide +kernel
theorem d_ty_init_97 : decode c_ty_init 97 = .ok (.getfield 21, 3) := by decide +kernel
theorem d_ty_init_100 : decode c_ty_init 100 = .ok (.iload 8, 2) := by decide +kernel
theorem d_ty_init_102 : decode c_ty_init 102 = .ok (.aaload, 1) := by decide +kernel
theorem d_ty_init_103 : decode c_ty_init 103 = .ok (.getfield 38, 3) := by decide +kernel
theorem d_ty_init_106 : decode c_ty_init 106 = .ok (.invokestatic 32, 3) := by decide +kernel
theorem d_ty_init_109 : decode c_ty_init 109 = .ok (.istore 6, 2) := by decide +kernel
theorem d_ty_init_111 : decode c_ty_init 111 = .ok (.iload 7, 2) := by decide +kernel
theorem d_ty_init_113 : decode c_ty_init 113 = .ok (.ifCond .ne 16, 3) := by decide +kernel
theorem d_ty_init_116 : decode c_ty_init 116 = .ok (.aload_n 0, 1) := by decide +kernel
theorem d_ty_init_117 : decode c_ty_init 117 = .ok (.getfield 21, 3) := by decide +kernel
theorem d_ty_init_120 : decode c_ty_init 120 = .ok (.iload 8, 2) := by decide +kernel
theorem d_ty_init_122 : decode c_ty_init 122 = .ok (.aaload, 1) := by decide +kernel
theorem d_ty_init_123 : decode c_ty_init 123 = .ok (.getfield 41, 3) := by decide +kernel
theorem d_ty_init_126 : decode c_ty_init 126 = .ok (.ifCond .eq 7, 3) := by decide +kernel
theorem d_ty_init_129 : decode c_ty_init 129 = .ok (.iconst 1, 1) := by decide +kernel
theorem d_ty_init_130 : decode c_ty_init 130 = .ok (.goto 4, 3) := by decide +kernel
theorem d_ty_init_133 : decode c_ty_init 133 = .ok (.iconst 0, 1) := by decide +kernel
theorem d_ty_init_134 : decode c_ty_init 134 = .ok (.istore 7, 2) := by decide +kernel
theorem d_ty_init_136 : decode c_ty_init 136 = .ok (.iinc 8 1, 3) := by decide +kernel
theorem d_ty_init_139 : decode c_ty_init 139 = .ok (.goto (-80), 3) := by decide +kernel
theorem d_ty_init_142 : decode c_ty_init 142 = .ok (.aload_n 0, 1) := by decide +kernel
theorem d_ty_init_143 : decode c_ty_init 143 = .ok (.iload 5, 2) := by decide +kernel
theorem d_ty_init_145 : decode c_ty_init 145 = .ok (.iconst 1, 1) := by decide +kernel
theorem d_ty_init_146 : decode c_ty_init 146 = .ok (.iadd, 1) := by decide +kernel
theorem d_ty_init_147 : decode c_ty_init 147 = .ok (.putfield 29, 3) := by decide +kernel
theorem d_ty_init_150 : decode c_ty_init 150 = .ok (.aload_n 0, 1) := by decide +kernel
theorem d_ty_init_151 : decode c_ty_init 151 = .ok (.iload 7, 2) := by decide +kernel
theorem d_ty_init_153 : decode c_ty_init 153 = .ok (.putfield 41, 3) := by decide +kernel
theorem d_ty_init_156 : decode c_ty_init 156 = .ok (.iconst 0, 1) := by decide +kernel
theorem d_ty_init_157 : decode c_ty_init 157 = .ok (.istore 8, 2) := by decide +kernel
theorem d_ty_init_159 : decode c_ty_init 159 = .ok (.iconst 0, 1) := by decide +kernel
theorem d_ty_init_160 : decode c_ty_init 160 = .ok (.istore 9, 2) := by decide +kernel
theorem d_ty_init_162 : decode c_ty_init 162 = .ok (.iload 9, 2) := by decide +kernel
theorem d_ty_init_164 : decode c_ty_init 164 = .ok (.iload 4, 2) := by decide +kernel
theorem d_ty_init_166 : decode c_ty_init 166 = .ok (.if_icmp .ge 59, 3) := by decide +kernel
theorem d_ty_init_169 : decode c_ty_init 169 = .ok (.aload_n 0, 1) := by decide +kernel
theorem d_ty_init_170 : decode c_ty_init 170 = .ok (.getfield 25, 3) := by decide +kernel
theorem d_ty_init_173 : decode c_ty_init 173 = .ok (.iload 9, 2) := by decide +kernel
theorem d_ty_init_175 : decode c_ty_init 175 = .ok (.iload 8, 2) := by decide +kernel
theorem d_ty_init_177 : decode c_ty_init 177 = .ok (.iload_n 1, 1) := by decide +kernel
theorem d_ty_init_178 : decode c_ty_init 178 = .ok (.iload 6, 2) := by decide +kernel
theorem d_ty_init_180 : decode c_ty_init 180 = .ok (.aload_n 0, 1) := by decide +kernel
theorem d_ty_init_181 : decode c_ty_init 181 = .ok (.getfield 21, 3) := by decide +kernel
theorem d_ty_init_184 : decode c_ty_init 184 = .ok (.iload 9, 2) := by decide +kernel
theorem d_ty_init_186 : decode c_ty_init 186 = .ok (.aaload, 1) := by decide +kernel
theorem d_ty_init_187 : decode c_ty_init 187 = .ok (.getfield 38, 3) := by decide +kernel
theorem d_ty_init_190 : decode c_ty_init 190 = .ok (.invokestatic 45, 3) := by decide +kernel
theorem d_ty_init_193 : decode c_ty_init 193 = .ok (.iastore, 1) := by decide +kernel
theorem d_ty_init_194 : decode c_ty_init 194 = .ok (.iload 8, 2) := by decide +kernel
theorem d_ty_init_196 : decode c_ty_init 196 = .ok (.aload_n 0, 1) := by decide +kernel
theorem d_ty_init_197 : decode c_ty_init 197 = .ok (.getfield 25, 3) := by decide +kernel
theorem d_ty_init_200 : decode c_ty_init 200 = .ok (.iload 9, 2) := by decide +kernel
theorem d_ty_init_202 : decode c_ty_init 202 = .ok (.iaload, 1) := by decide +kernel
theorem d_ty_init_203 : decode c_ty_init 203 = .ok (.aload_n 0, 1) := by decide +kernel
theorem d_ty_init_204 : decode c_ty_init 204 = .ok (.getfield 21, 3) := by decide +kernel
theorem d_ty_init_207 : decode c_ty_init 207 = .ok (.iload 9, 2) := by decide +kernel
theorem d_ty_init_209 : decode c_ty_init 209 = .ok (.aaload, 1) := by decide +kernel
theorem d_ty_init_210 : decode c_ty_init 210 = .ok (.getfield 49, 3) := by decide +kernel
theorem d_ty_init_213 : decode c_ty_init 213 = .ok (.iadd, 1) := by decide +kernel
theorem d_ty_init_214 : decode c_ty_init 214 = .ok (.invokestatic 32, 3) := by decide +kernel
theorem d_ty_init_217 : decode c_ty_init 217 = .ok (.istore 8, 2) := by decide +kernel
theorem d_ty_init_219 : decode c_ty_init 219 = .ok (.iinc 9 1, 3) := by decide +kernel
theorem d_ty_init_222 : decode c_ty_init 222 = .ok (.goto (-60), 3) := by decide +kernel
theorem d_ty_init_225 : decode c_ty_init 225 = .ok (.iload_n 1, 1) := by decide +kernel
theorem d_ty_init_226 : decode c_ty_init 226 = .ok (.bipush 9, 2) := by decide +kernel
theorem d_ty_init_228 : decode c_ty_init 228 = .ok (.if_icmp .eq 9, 3) := by decide +kernel
theorem d_ty_init_231 : decode c_ty_init 231 = .ok (.iload_n 1, 1) := by decide +kernel
theorem d_ty_init_232 : decode c_ty_init 232 = .ok (.bipush 10, 2) := by decide +kernel
theorem d_ty_init_234 : decode c_ty_init 234 = .ok (.if_icmp .ne 7, 3) := by decide +kernel
theorem d_ty_init_237 : decode c_ty_init 237 = .ok (.iconst 1, 1) := by decide +kernel
theorem d_ty_init_238 : decode c_ty_init 238 = .ok (.goto 4, 3) := by decide +kernel
theorem d_ty_init_241 : decode c_ty_init 241 = .ok (.iconst 0, 1) := by decide +kernel
theorem d_ty_init_242 : decode c_ty_init 242 = .ok (.istore 9, 2) := by decide +kernel
theorem d_ty_init_244 : decode c_ty_init 244 = .ok (.aload_n 0, 1) := by decide +kernel
theorem d_ty_init_245 : decode c_ty_init 245 = .ok (.iload 9, 2) := by decide +kernel
theorem d_ty_init_247 : decode c_ty_init 247 = .ok (.ifCond .eq 8, 3) := by decide +kernel
theorem d_ty_init_250 : decode c_ty_init 250 = .ok (.iload 6, 2) := by decide +kernel
theorem d_ty_init_252 : decode c_ty_init 252 = .ok (.goto 8, 3) := by decide +kernel
theorem d_ty_init_255 : decode c_ty_init 255 = .ok (.getstatic 52, 3) := by decide +kernel
theorem d_ty_init_258 : decode c_ty_init 258 = .ok (.iload_n 1, 1) := by decide +kernel
theorem d_ty_init_259 : decode c_ty_init 259 = .ok (.iaload, 1) := by decide +kernel
theorem d_ty_init_260 : decode c_ty_init 260 = .ok (.putfield 38, 3) := by decide +kernel
theorem d_ty_init_263 : decode c_ty_init 263 = .ok (.aload_n 0, 1) := by decide +kernel
theorem d_ty_init_264 : decode c_ty_init 264 = .ok (.iload 9, 2) := by decide +kernel
theorem d_ty_init_266 : decode c_ty_init 266 = .ok (.ifCond .eq 13, 3) := by decide +kernel
theorem d_ty_init_269 : decode c_ty_init 269 = .ok (.iload 8, 2) := by decide +kernel
theorem d_ty_init_271 : decode c_ty_init 271 = .ok (.iload 6, 2) := by decide +kernel
theorem d_ty_init_273 : decode c_ty_init 273 = .ok (.invokestatic 55, 3) := by decide +kernel
theorem d_ty_init_276 : decode c_ty_init 276 = .ok (.goto 8, 3) := by decide +kernel
theorem d_ty_init_279 : decode c_ty_init 279 = .ok (.getstatic 58, 3) := by decide +kernel
theorem d_ty_init_282 : decode c_ty_init 282 = .ok (.iload_n 1, 1) := by decide +kernel
theorem d_ty_init_283 : decode c_ty_init 283 = .ok (.iaload, 1) := by decide +kernel
theorem d_ty_init_284 : decode c_ty_init 284 = .ok (.putfield 49, 3) := by decide +kernel
theorem d_ty_init_287 : decode c_ty_init 287 = .ok (.return_, 1) := by decide +kernel
theorem d_it_init_0 : decode c_it_init 0 = .ok (.aload_n 0, 1) := by decide +kernel
theorem d_it_init_1 : decode c_it_init 1 = .ok (.invokespecial 3, 3) := by decide +kernel
theorem d_it_init_4 : decode c_it_init 4 = .ok (.aload_n 0, 1) := by decide +kernel
theorem d_it_init_5 : decode c_it_init 5 = .ok (.sipush 200, 3) := by decide +kernel
theorem d_it_init_8 : decode c_it_init 8 = .ok (.newarray .int, 2) := by decide +kernel
theorem d_it_init_10 : decode c_it_init 10 = .ok (.putfield 9, 3) := by decide +kernel
theorem d_it_init_13 : decode c_it_init 13 = .ok (.aload_n 0, 1) := by decide +kernel
theorem d_it_init_14 : decode c_it_init 14 = .ok (.sipush 200, 3) := by decide +kernel
theorem d_it_init_17 : decode c_it_init 17 = .ok (.newarray .long, 2) := by decide +kernel
theorem d_it_init_19 : decode c_it_init 19 = .ok (.putfield 15, 3) := by decide +kernel
theorem d_it_init_22 : decode c_it_init 22 = .ok (.aload_n 0, 1) := by decide +kernel
theorem d_it_init_23 : decode c_it_init 23 = .ok (.sipush 200, 3) := by decide +kernel
theorem d_it_init_26 : decode c_it_init 26 = .ok (.newarray .int, 2) := by decide +kernel
theorem d_it_init_28 : decode c_it_init 28 = .ok (.putfield 19, 3) := by decide +kernel
theorem d_it_init_31 : decode c_it_init 31 = .ok (.aload_n 0, 1) := by decide +kernel
theorem d_it_init_32 : decode c_it_init 32 = .ok (.iconst 0, 1) := by decide +kernel
theorem d_it_init_33 : decode c_it_init 33 = .ok (.putfield 22, 3) := by decide +kernel
theorem d_it_init_36 : decode c_it_init 36 = .ok (.return_, 1) := by decide +kernel
theorem d_tr_init_0 : decode c_tr_init 0 = .ok (.aload_n 0, 1) := by decide +kernel
theorem d_tr_init_1 : decode c_tr_init 1 = .ok (.invokespecial 1, 3) := by decide +kernel
theorem d_tr_init_4 : decode c_tr_init 4 = .ok (.aload_n 0, 1) := by decide +kernel
theorem d_tr_init_5 : decode c_tr_init 5 = .ok (.iconst 0, 1) := by decide +kernel
theorem d_tr_init_6 : decode c_tr_init 6 = .ok (.putfield 7, 3) := by decide +kernel
theorem d_tr_init_9 : decode c_tr_init 9 = .ok (.aload_n 0, 1) := by decide +kernel
theorem d_tr_init_10 : decode c_tr_init 10 = .ok (.iconst 0, 1) := by decide +kernel
theorem d_tr_init_11 : decode c_tr_init 11 = .ok (.putfield 13, 3) := by decide +kernel
theorem d_tr_init_14 : decode c_tr_init 14 = .ok (.return_, 1) := by decide +kernel
theorem d_hc_init_0 : decode c_hc_init 0 = .ok (.aload_n 0, 1) := by decide +kernel
theorem d_hc_init_1 : decode c_hc_init 1 = .ok (.invokespecial 1, 3) := by decide +kernel
theorem d_hc_init_4 : decode c_hc_init 4 = .ok (.aload_n 0, 1) := by decide +kernel
theorem d_hc_init_5 : decode c_hc_init 5 = .ok (.bipush 32, 2) := by decide +kernel
theorem d_hc_init_7 : decode c_hc_init 7 = .ok (.anewarray 9, 3) := by decide +kernel
theorem d_hc_init_10 : decode c_hc_init 10 = .ok (.putfield 11, 3) := by decide +kernel
theorem d_hc_init_13 : decode c_hc_init 13 = .ok (.aload_n 0, 1) := by decide +kernel
theorem d_hc_init_14 : decode c_hc_init 14 = .ok (.iconst 0, 1) := by decide +kernel
theorem d_hc_init_15 : decode c_hc_init 15 = .ok (.putfield 15, 3) := by decide +kernel
theorem d_hc_init_18 : decode c_hc_init 18 = .ok (.aload_n 0, 1) := by decide +kernel
theorem d_hc_init_19 : decode c_hc_init 19 = .ok (.bipush 6, 2) := by decide +kernel
theorem d_hc_init_21 : decode c_hc_init 21 = .ok (.anewarray 9, 3) := by decide +kernel
theorem d_hc_init_24 : decode c_hc_init 24 = .ok (.putfield 19, 3) := by decide +kernel
theorem d_hc_init_27 : decode c_hc_init 27 = .ok (.aload_n 0, 1) := by decide +kernel
theorem d_hc_init_28 : decode c_hc_init 28 = .ok (.iconst 0, 1) := by decide +kernel
theorem d_hc_init_29 : decode c_hc_init 29 = .ok (.putfield 22, 3) := by decide +kernel
theorem d_hc_init_32 : decode c_hc_init 32 = .ok (.aload_n 0, 1) := by decide +kernel
theorem d_hc_init_33 : decode c_hc_init 33 = .ok (.bipush 6, 2) := by decide +kernel
theorem d_hc_init_35 : decode c_hc_init 35 = .ok (.anewarray 25, 3) := by decide +kernel
theorem d_hc_init_38 : decode c_hc_init 38 = .ok (.putfield 27, 3) := by decide +kernel
theorem d_hc_init_41 : decode c_hc_init 41 = .ok (.aload_n 0, 1) := by decide +kernel
theorem d_hc_init_42 : decode c_hc_init 42 = .ok (.iconst 0, 1) := by decide +kernel
theorem d_hc_init_43 : decode c_hc_init 43 = .ok (.putfield 31, 3) := by decide +kernel
theorem d_hc_init_46 : decode c_hc_init 46 = .ok (.aload_n 0, 1) := by decide +kernel
theorem d_hc_init_47 : decode c_hc_init 47 = .ok (.bipush 12, 2) := by decide +kernel
theorem d_hc_init_49 : decode c_hc_init 49 = .ok (.anewarray 34, 3) := by decide +kernel
theorem d_hc_init_52 : decode c_hc_init 52 = .ok (.putfield 36, 3) := by decide +kernel
theorem d_hc_init_55 : decode c_hc_init 55 = .ok (.aload_n 0, 1) := by decide +kernel
theorem d_hc_init_56 : decode c_hc_init 56 = .ok (.iconst 0, 1) := by decide +kernel
theorem d_hc_init_57 : decode c_hc_init 57 = .ok (.putfield 40, 3) := by decide +kernel
theorem d_hc_init_60 : decode c_hc_init 60 = .ok (.aload_n 0, 1) := by decide +kernel
theorem d_hc_init_61 : decode c_hc_init 61 = .ok (.bipush 6, 2) := by decide +kernel
theorem d_hc_init_63 : decode c_hc_init 63 = .ok (.newarray .int, 2) := by decide +kernel
theorem d_hc_init_65 : decode c_hc_init 65 = .ok (.putfield 43, 3) := by decide +kernel
theorem d_hc_init_68 : decode c_hc_init 68 = .ok (.aload_n 0, 1) := by decide +kernel
theorem d_hc_init_69 : decode c_hc_init 69 = .ok (.bipush 6, 2) := by decide +kernel
theorem d_hc_init_71 : decode c_hc_init 71 = .ok (.newarray .int, 2) := by decide +kernel
theorem d_hc_init_73 : decode c_hc_init 73 = .ok (.putfield 47, 3) := by decide +kernel
theorem d_hc_init_76 : decode c_hc_init 76 = .ok (.aload_n 0, 1) := by decide +kernel
theorem d_hc_init_77 : decode c_hc_init 77 = .ok (.bipush 6, 2) := by decide +kernel
theorem d_hc_init_79 : decode c_hc_init 79 = .ok (.newarray .int, 2) := by decide +kernel
theorem d_hc_init_81 : decode c_hc_init 81 = .ok (.putfield 50, 3) := by decide +kernel
theorem d_hc_init_84 : decode c_hc_init 84 = .ok (.aload_n 0, 1) := by decide +kernel
theorem d_hc_init_85 : decode c_hc_init 85 = .ok (.iconst 0, 1) := by decide +kernel
theorem d_hc_init_86 : decode c_hc_init 86 = .ok (.putfield 53, 3) := by decide +kernel
theorem d_hc_init_89 : decode c_hc_init 89 = .ok (.aload_n 0, 1) := by decide +kernel
theorem d_hc_init_90 : decode c_hc_init 90 = .ok (.iconst 0, 1) := by decide +kernel
theorem d_hc_init_91 : decode c_hc_init 91 = .ok (.putfield 56, 3) := by decide +kernel
theorem d_hc_init_94 : decode c_hc_init 94 = .ok (.aload_n 0, 1) := by decide +kernel
theorem d_hc_init_95 : decode c_hc_init 95 = .ok (.iconst 4, 1) := by decide +kernel
theorem d_hc_init_96 : decode c_hc_init 96 = .ok (.newarray .int, 2) := by decide +kernel
theorem d_hc_init_98 : decode c_hc_init 98 = .ok (.putfield 59, 3) := by decide +kernel
theorem d_hc_init_101 : decode c_hc_init 101 = .ok (.aload_n 0, 1) := by decide +kernel
theorem d_hc_init_102 : decode c_hc_init 102 = .ok (.iconst 4, 1) := by decide +kernel
theorem d_hc_init_103 : decode c_hc_init 103 = .ok (.newarray .int, 2) := by decide +kernel
theorem d_hc_init_105 : decode c_hc_init 105 = .ok (.putfield 62, 3) := by decide +kernel
theorem d_hc_init_108 : decode c_hc_init 108 = .ok (.aload_n 0, 1) := by decide +kernel
theorem d_hc_init_109 : decode c_hc_init 109 = .ok (.new 65, 3) := by decide +kernel
theorem d_hc_init_112 : decode c_hc_init 112 = .ok (.dup, 1) := by decide +kernel
theorem d_hc_init_113 : decode c_hc_init 113 = .ok (.invokespecial 67, 3) := by decide +kernel
theorem d_hc_init_116 : decode c_hc_init 116 = .ok (.putfield 68, 3) := by decide +kernel
theorem d_hc_init_119 : decode c_hc_init 119 = .ok (.aload_n 0, 1) := by decide +kernel
theorem d_hc_init_120 : decode c_hc_init 120 = .ok (.new 72, 3) := by decide +kernel
theorem d_hc_init_123 : decode c_hc_init 123 = .ok (.dup, 1) := by decide +kernel
theorem d_hc_init_124 : decode c_hc_init 124 = .ok (.invokespecial 74, 3) := by decide +kernel
theorem d_hc_init_127 : decode c_hc_init 127 = .ok (.putfield 75, 3) := by decide +kernel
theorem d_hc_init_130 : decode c_hc_init 130 = .ok (.aload_n 0, 1) := by decide +kernel
theorem d_hc_init_131 : decode c_hc_init 131 = .ok (.iconst (-1), 1) := by decide +kernel
theorem d_hc_init_132 : decode c_hc_init 132 = .ok (.putfield 79, 3) := by decide +kernel
theorem d_hc_init_135 : decode c_hc_init 135 = .ok (.return_, 1) := by decide +kernel
