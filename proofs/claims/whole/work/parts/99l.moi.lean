abbrev c_mo_init : ByteArray := prog_12_method_1_code
theorem d_mo_init_0 : decode c_mo_init 0 = .ok (.aload_n 0, 1) := by decide +kernel
theorem d_mo_init_1 : decode c_mo_init 1 = .ok (.invokespecial 1, 3) := by decide +kernel
theorem d_mo_init_4 : decode c_mo_init 4 = .ok (.aload_n 0, 1) := by decide +kernel
theorem d_mo_init_5 : decode c_mo_init 5 = .ok (.bipush 32, 2) := by decide +kernel
theorem d_mo_init_7 : decode c_mo_init 7 = .ok (.newarray .int, 2) := by decide +kernel
theorem d_mo_init_9 : decode c_mo_init 9 = .ok (.putfield 7, 3) := by decide +kernel
theorem d_mo_init_12 : decode c_mo_init 12 = .ok (.aload_n 0, 1) := by decide +kernel
theorem d_mo_init_13 : decode c_mo_init 13 = .ok (.bipush 32, 2) := by decide +kernel
theorem d_mo_init_15 : decode c_mo_init 15 = .ok (.newarray .int, 2) := by decide +kernel
theorem d_mo_init_17 : decode c_mo_init 17 = .ok (.putfield 13, 3) := by decide +kernel
theorem d_mo_init_20 : decode c_mo_init 20 = .ok (.aload_n 0, 1) := by decide +kernel
theorem d_mo_init_21 : decode c_mo_init 21 = .ok (.bipush 32, 2) := by decide +kernel
theorem d_mo_init_23 : decode c_mo_init 23 = .ok (.newarray .int, 2) := by decide +kernel
theorem d_mo_init_25 : decode c_mo_init 25 = .ok (.putfield 16, 3) := by decide +kernel
theorem d_mo_init_28 : decode c_mo_init 28 = .ok (.aload_n 0, 1) := by decide +kernel
theorem d_mo_init_29 : decode c_mo_init 29 = .ok (.bipush 32, 2) := by decide +kernel
theorem d_mo_init_31 : decode c_mo_init 31 = .ok (.newarray .int, 2) := by decide +kernel
theorem d_mo_init_33 : decode c_mo_init 33 = .ok (.putfield 19, 3) := by decide +kernel
theorem d_mo_init_36 : decode c_mo_init 36 = .ok (.aload_n 0, 1) := by decide +kernel
theorem d_mo_init_37 : decode c_mo_init 37 = .ok (.bipush 32, 2) := by decide +kernel
theorem d_mo_init_39 : decode c_mo_init 39 = .ok (.newarray .int, 2) := by decide +kernel
theorem d_mo_init_41 : decode c_mo_init 41 = .ok (.putfield 22, 3) := by decide +kernel
theorem d_mo_init_44 : decode c_mo_init 44 = .ok (.aload_n 0, 1) := by decide +kernel
theorem d_mo_init_45 : decode c_mo_init 45 = .ok (.bipush 32, 2) := by decide +kernel
theorem d_mo_init_47 : decode c_mo_init 47 = .ok (.newarray .int, 2) := by decide +kernel
theorem d_mo_init_49 : decode c_mo_init 49 = .ok (.putfield 25, 3) := by decide +kernel
theorem d_mo_init_52 : decode c_mo_init 52 = .ok (.aload_n 0, 1) := by decide +kernel
theorem d_mo_init_53 : decode c_mo_init 53 = .ok (.sipush 192, 3) := by decide +kernel
theorem d_mo_init_56 : decode c_mo_init 56 = .ok (.newarray .int, 2) := by decide +kernel
theorem d_mo_init_58 : decode c_mo_init 58 = .ok (.putfield 28, 3) := by decide +kernel
theorem d_mo_init_61 : decode c_mo_init 61 = .ok (.aload_n 0, 1) := by decide +kernel
theorem d_mo_init_62 : decode c_mo_init 62 = .ok (.sipush 192, 3) := by decide +kernel
theorem d_mo_init_65 : decode c_mo_init 65 = .ok (.newarray .int, 2) := by decide +kernel
theorem d_mo_init_67 : decode c_mo_init 67 = .ok (.putfield 31, 3) := by decide +kernel
theorem d_mo_init_70 : decode c_mo_init 70 = .ok (.aload_n 0, 1) := by decide +kernel
theorem d_mo_init_71 : decode c_mo_init 71 = .ok (.bipush 6, 2) := by decide +kernel
theorem d_mo_init_73 : decode c_mo_init 73 = .ok (.newarray .int, 2) := by decide +kernel
theorem d_mo_init_75 : decode c_mo_init 75 = .ok (.putfield 34, 3) := by decide +kernel
theorem d_mo_init_78 : decode c_mo_init 78 = .ok (.aload_n 0, 1) := by decide +kernel
theorem d_mo_init_79 : decode c_mo_init 79 = .ok (.sipush 1536, 3) := by decide +kernel
theorem d_mo_init_82 : decode c_mo_init 82 = .ok (.newarray .int, 2) := by decide +kernel
theorem d_mo_init_84 : decode c_mo_init 84 = .ok (.putfield 37, 3) := by decide +kernel
theorem d_mo_init_87 : decode c_mo_init 87 = .ok (.aload_n 0, 1) := by decide +kernel
theorem d_mo_init_88 : decode c_mo_init 88 = .ok (.bipush 6, 2) := by decide +kernel
theorem d_mo_init_90 : decode c_mo_init 90 = .ok (.newarray .int, 2) := by decide +kernel
theorem d_mo_init_92 : decode c_mo_init 92 = .ok (.putfield 40, 3) := by decide +kernel
theorem d_mo_init_95 : decode c_mo_init 95 = .ok (.aload_n 0, 1) := by decide +kernel
theorem d_mo_init_96 : decode c_mo_init 96 = .ok (.bipush 6, 2) := by decide +kernel
theorem d_mo_init_98 : decode c_mo_init 98 = .ok (.newarray .int, 2) := by decide +kernel
theorem d_mo_init_100 : decode c_mo_init 100 = .ok (.putfield 43, 3) := by decide +kernel
theorem d_mo_init_103 : decode c_mo_init 103 = .ok (.aload_n 0, 1) := by decide +kernel
theorem d_mo_init_104 : decode c_mo_init 104 = .ok (.bipush 102, 2) := by decide +kernel
theorem d_mo_init_106 : decode c_mo_init 106 = .ok (.newarray .boolean, 2) := by decide +kernel
theorem d_mo_init_108 : decode c_mo_init 108 = .ok (.putfield 46, 3) := by decide +kernel
theorem d_mo_init_111 : decode c_mo_init 111 = .ok (.aload_n 0, 1) := by decide +kernel
theorem d_mo_init_112 : decode c_mo_init 112 = .ok (.bipush 102, 2) := by decide +kernel
theorem d_mo_init_114 : decode c_mo_init 114 = .ok (.newarray .int, 2) := by decide +kernel
theorem d_mo_init_116 : decode c_mo_init 116 = .ok (.putfield 50, 3) := by decide +kernel
theorem d_mo_init_119 : decode c_mo_init 119 = .ok (.aload_n 0, 1) := by decide +kernel
theorem d_mo_init_120 : decode c_mo_init 120 = .ok (.bipush 102, 2) := by decide +kernel
theorem d_mo_init_122 : decode c_mo_init 122 = .ok (.newarray .boolean, 2) := by decide +kernel
theorem d_mo_init_124 : decode c_mo_init 124 = .ok (.putfield 53, 3) := by decide +kernel
theorem d_mo_init_127 : decode c_mo_init 127 = .ok (.aload_n 0, 1) := by decide +kernel
theorem d_mo_init_128 : decode c_mo_init 128 = .ok (.bipush 102, 2) := by decide +kernel
theorem d_mo_init_130 : decode c_mo_init 130 = .ok (.newarray .int, 2) := by decide +kernel
theorem d_mo_init_132 : decode c_mo_init 132 = .ok (.putfield 56, 3) := by decide +kernel
theorem d_mo_init_135 : decode c_mo_init 135 = .ok (.aload_n 0, 1) := by decide +kernel
theorem d_mo_init_136 : decode c_mo_init 136 = .ok (.bipush 102, 2) := by decide +kernel
theorem d_mo_init_138 : decode c_mo_init 138 = .ok (.newarray .boolean, 2) := by decide +kernel
theorem d_mo_init_140 : decode c_mo_init 140 = .ok (.putfield 59, 3) := by decide +kernel
theorem d_mo_init_143 : decode c_mo_init 143 = .ok (.aload_n 0, 1) := by decide +kernel
theorem d_mo_init_144 : decode c_mo_init 144 = .ok (.bipush 102, 2) := by decide +kernel
theorem d_mo_init_146 : decode c_mo_init 146 = .ok (.newarray .int, 2) := by decide +kernel
theorem d_mo_init_148 : decode c_mo_init 148 = .ok (.putfield 62, 3) := by decide +kernel
theorem d_mo_init_151 : decode c_mo_init 151 = .ok (.aload_n 0, 1) := by decide +kernel
theorem d_mo_init_152 : decode c_mo_init 152 = .ok (.sipush 1024, 3) := by decide +kernel
theorem d_mo_init_155 : decode c_mo_init 155 = .ok (.newarray .int, 2) := by decide +kernel
theorem d_mo_init_157 : decode c_mo_init 157 = .ok (.putfield 65, 3) := by decide +kernel
theorem d_mo_init_160 : decode c_mo_init 160 = .ok (.aload_n 0, 1) := by decide +kernel
theorem d_mo_init_161 : decode c_mo_init 161 = .ok (.sipush 1024, 3) := by decide +kernel
theorem d_mo_init_164 : decode c_mo_init 164 = .ok (.newarray .boolean, 2) := by decide +kernel
theorem d_mo_init_166 : decode c_mo_init 166 = .ok (.putfield 68, 3) := by decide +kernel
theorem d_mo_init_169 : decode c_mo_init 169 = .ok (.aload_n 0, 1) := by decide +kernel
theorem d_mo_init_170 : decode c_mo_init 170 = .ok (.bipush 12, 2) := by decide +kernel
theorem d_mo_init_172 : decode c_mo_init 172 = .ok (.newarray .int, 2) := by decide +kernel
theorem d_mo_init_174 : decode c_mo_init 174 = .ok (.putfield 71, 3) := by decide +kernel
theorem d_mo_init_177 : decode c_mo_init 177 = .ok (.aload_n 0, 1) := by decide +kernel
theorem d_mo_init_178 : decode c_mo_init 178 = .ok (.bipush 12, 2) := by decide +kernel
theorem d_mo_init_180 : decode c_mo_init 180 = .ok (.newarray .int, 2) := by decide +kernel
theorem d_mo_init_182 : decode c_mo_init 182 = .ok (.putfield 74, 3) := by decide +kernel
theorem d_mo_init_185 : decode c_mo_init 185 = .ok (.aload_n 0, 1) := by decide +kernel
theorem d_mo_init_186 : decode c_mo_init 186 = .ok (.bipush 12, 2) := by decide +kernel
theorem d_mo_init_188 : decode c_mo_init 188 = .ok (.newarray .int, 2) := by decide +kernel
theorem d_mo_init_190 : decode c_mo_init 190 = .ok (.putfield 77, 3) := by decide +kernel
theorem d_mo_init_193 : decode c_mo_init 193 = .ok (.aload_n 0, 1) := by decide +kernel
theorem d_mo_init_194 : decode c_mo_init 194 = .ok (.bipush 6, 2) := by decide +kernel
theorem d_mo_init_196 : decode c_mo_init 196 = .ok (.newarray .int, 2) := by decide +kernel
theorem d_mo_init_198 : decode c_mo_init 198 = .ok (.putfield 80, 3) := by decide +kernel
theorem d_mo_init_201 : decode c_mo_init 201 = .ok (.aload_n 0, 1) := by decide +kernel
theorem d_mo_init_202 : decode c_mo_init 202 = .ok (.bipush 6, 2) := by decide +kernel
theorem d_mo_init_204 : decode c_mo_init 204 = .ok (.newarray .int, 2) := by decide +kernel
theorem d_mo_init_206 : decode c_mo_init 206 = .ok (.putfield 83, 3) := by decide +kernel
theorem d_mo_init_209 : decode c_mo_init 209 = .ok (.aload_n 0, 1) := by decide +kernel
theorem d_mo_init_210 : decode c_mo_init 210 = .ok (.bipush 6, 2) := by decide +kernel
theorem d_mo_init_212 : decode c_mo_init 212 = .ok (.newarray .int, 2) := by decide +kernel
theorem d_mo_init_214 : decode c_mo_init 214 = .ok (.putfield 86, 3) := by decide +kernel
theorem d_mo_init_217 : decode c_mo_init 217 = .ok (.aload_n 0, 1) := by decide +kernel
theorem d_mo_init_218 : decode c_mo_init 218 = .ok (.iconst (-1), 1) := by decide +kernel
theorem d_mo_init_219 : decode c_mo_init 219 = .ok (.putfield 89, 3) := by decide +kernel
theorem d_mo_init_222 : decode c_mo_init 222 = .ok (.aload_n 0, 1) := by decide +kernel
theorem d_mo_init_223 : decode c_mo_init 223 = .ok (.bipush 64, 2) := by decide +kernel
theorem d_mo_init_225 : decode c_mo_init 225 = .ok (.newarray .int, 2) := by decide +kernel
theorem d_mo_init_227 : decode c_mo_init 227 = .ok (.putfield 93, 3) := by decide +kernel
theorem d_mo_init_230 : decode c_mo_init 230 = .ok (.aload_n 0, 1) := by decide +kernel
theorem d_mo_init_231 : decode c_mo_init 231 = .ok (.bipush 64, 2) := by decide +kernel
theorem d_mo_init_233 : decode c_mo_init 233 = .ok (.newarray .int, 2) := by decide +kernel
theorem d_mo_init_235 : decode c_mo_init 235 = .ok (.putfield 96, 3) := by decide +kernel
theorem d_mo_init_238 : decode c_mo_init 238 = .ok (.aload_n 0, 1) := by decide +kernel
theorem d_mo_init_239 : decode c_mo_init 239 = .ok (.bipush 64, 2) := by decide +kernel
theorem d_mo_init_241 : decode c_mo_init 241 = .ok (.newarray .int, 2) := by decide +kernel
theorem d_mo_init_243 : decode c_mo_init 243 = .ok (.putfield 99, 3) := by decide +kernel
theorem d_mo_init_246 : decode c_mo_init 246 = .ok (.aload_n 0, 1) := by decide +kernel
theorem d_mo_init_247 : decode c_mo_init 247 = .ok (.bipush 64, 2) := by decide +kernel
theorem d_mo_init_249 : decode c_mo_init 249 = .ok (.newarray .int, 2) := by decide +kernel
theorem d_mo_init_251 : decode c_mo_init 251 = .ok (.putfield 102, 3) := by decide +kernel
theorem d_mo_init_254 : decode c_mo_init 254 = .ok (.aload_n 0, 1) := by decide +kernel
theorem d_mo_init_255 : decode c_mo_init 255 = .ok (.bipush 64, 2) := by decide +kernel
theorem d_mo_init_257 : decode c_mo_init 257 = .ok (.newarray .int, 2) := by decide +kernel
theorem d_mo_init_259 : decode c_mo_init 259 = .ok (.putfield 105, 3) := by decide +kernel
theorem d_mo_init_262 : decode c_mo_init 262 = .ok (.aload_n 0, 1) := by decide +kernel
theorem d_mo_init_263 : decode c_mo_init 263 = .ok (.bipush 64, 2) := by decide +kernel
theorem d_mo_init_265 : decode c_mo_init 265 = .ok (.newarray .int, 2) := by decide +kernel
theorem d_mo_init_267 : decode c_mo_init 267 = .ok (.putfield 108, 3) := by decide +kernel
theorem d_mo_init_270 : decode c_mo_init 270 = .ok (.aload_n 0, 1) := by decide +kernel
theorem d_mo_init_271 : decode c_mo_init 271 = .ok (.sipush 200, 3) := by decide +kernel
theorem d_mo_init_274 : decode c_mo_init 274 = .ok (.newarray .int, 2) := by decide +kernel
theorem d_mo_init_276 : decode c_mo_init 276 = .ok (.putfield 111, 3) := by decide +kernel
theorem d_mo_init_279 : decode c_mo_init 279 = .ok (.aload_n 0, 1) := by decide +kernel
theorem d_mo_init_280 : decode c_mo_init 280 = .ok (.sipush 200, 3) := by decide +kernel
theorem d_mo_init_283 : decode c_mo_init 283 = .ok (.newarray .int, 2) := by decide +kernel
theorem d_mo_init_285 : decode c_mo_init 285 = .ok (.putfield 114, 3) := by decide +kernel
theorem d_mo_init_288 : decode c_mo_init 288 = .ok (.aload_n 0, 1) := by decide +kernel
theorem d_mo_init_289 : decode c_mo_init 289 = .ok (.sipush 200, 3) := by decide +kernel
theorem d_mo_init_292 : decode c_mo_init 292 = .ok (.newarray .int, 2) := by decide +kernel
theorem d_mo_init_294 : decode c_mo_init 294 = .ok (.putfield 117, 3) := by decide +kernel
theorem d_mo_init_297 : decode c_mo_init 297 = .ok (.aload_n 0, 1) := by decide +kernel
theorem d_mo_init_298 : decode c_mo_init 298 = .ok (.sipush 200, 3) := by decide +kernel
theorem d_mo_init_301 : decode c_mo_init 301 = .ok (.newarray .int, 2) := by decide +kernel
theorem d_mo_init_303 : decode c_mo_init 303 = .ok (.putfield 120, 3) := by decide +kernel
theorem d_mo_init_306 : decode c_mo_init 306 = .ok (.aload_n 0, 1) := by decide +kernel
theorem d_mo_init_307 : decode c_mo_init 307 = .ok (.sipush 200, 3) := by decide +kernel
theorem d_mo_init_310 : decode c_mo_init 310 = .ok (.newarray .int, 2) := by decide +kernel
theorem d_mo_init_312 : decode c_mo_init 312 = .ok (.putfield 123, 3) := by decide +kernel
theorem d_mo_init_315 : decode c_mo_init 315 = .ok (.aload_n 0, 1) := by decide +kernel
theorem d_mo_init_316 : decode c_mo_init 316 = .ok (.sipush 200, 3) := by decide +kernel
theorem d_mo_init_319 : decode c_mo_init 319 = .ok (.newarray .int, 2) := by decide +kernel
theorem d_mo_init_321 : decode c_mo_init 321 = .ok (.putfield 126, 3) := by decide +kernel
theorem d_mo_init_324 : decode c_mo_init 324 = .ok (.aload_n 0, 1) := by decide +kernel
theorem d_mo_init_325 : decode c_mo_init 325 = .ok (.sipush 200, 3) := by decide +kernel
theorem d_mo_init_328 : decode c_mo_init 328 = .ok (.newarray .int, 2) := by decide +kernel
theorem d_mo_init_330 : decode c_mo_init 330 = .ok (.putfield 129, 3) := by decide +kernel
theorem d_mo_init_333 : decode c_mo_init 333 = .ok (.aload_n 0, 1) := by decide +kernel
theorem d_mo_init_334 : decode c_mo_init 334 = .ok (.sipush 200, 3) := by decide +kernel
theorem d_mo_init_337 : decode c_mo_init 337 = .ok (.newarray .int, 2) := by decide +kernel
theorem d_mo_init_339 : decode c_mo_init 339 = .ok (.putfield 132, 3) := by decide +kernel
theorem d_mo_init_342 : decode c_mo_init 342 = .ok (.aload_n 0, 1) := by decide +kernel
theorem d_mo_init_343 : decode c_mo_init 343 = .ok (.bipush 16, 2) := by decide +kernel
theorem d_mo_init_345 : decode c_mo_init 345 = .ok (.newarray .int, 2) := by decide +kernel
theorem d_mo_init_347 : decode c_mo_init 347 = .ok (.putfield 135, 3) := by decide +kernel
theorem d_mo_init_350 : decode c_mo_init 350 = .ok (.aload_n 0, 1) := by decide +kernel
theorem d_mo_init_351 : decode c_mo_init 351 = .ok (.bipush 6, 2) := by decide +kernel
theorem d_mo_init_353 : decode c_mo_init 353 = .ok (.newarray .int, 2) := by decide +kernel
theorem d_mo_init_355 : decode c_mo_init 355 = .ok (.putfield 138, 3) := by decide +kernel
theorem d_mo_init_358 : decode c_mo_init 358 = .ok (.return_, 1) := by decide +kernel
/-! the reference's constructor -/
def mi_x : List Cond := [.methodLink mo_C 1 Lib.objectInit, .instanceMethod Lib.objectInit, .code Lib.objectInit ⟨#[0xb1]⟩ 1 none, .arrayClass .int, .arrayClass .boolean]
def mi_ws : List Cond := mi_x ++ mo_ws
abbrev m_mo_init : ev_M := (⟨mo_C, "<init>", "()V"⟩, c_mo_init, 1, none, Cond.code ⟨mo_C, "<init>", "()V"⟩ c_mo_init 1 none :: mi_ws, { frames := 2, cells := 42, slots := 6850, locals := 80 })
theorem mi_in {c w : Cond} (h : w ∈ mo_ws) : w ∈ c :: mi_ws := List.mem_cons_of_mem _ (List.mem_append_right _ h)
theorem mi_ix {c w : Cond} {i : Nat} (h : mi_x[i]? = some w) : w ∈ c :: mi_ws := List.mem_cons_of_mem _ (List.mem_append_left _ (List.mem_of_getElem? h))
theorem lm_of {w : Cond} {idx k i : Nat} {ty : FieldType} (hk : k < 60) (h : mo_wl[i]? = some (Cond.fieldLink mo_C idx (T_mo k).1 (T_mo k).2.1 (T_mo k).2.2.1)) (hf : (T_mo k).2.2.2 = true) (ht : parseFieldDescriptor (T_mo k).2.2.1 = some ty) (ho : (T_mo k).1 = mo_C) : ev_FF cl_A (w :: mi_ws) mo_C idx mo_ci k ty :=
  ⟨R_mo, T_mo, 60, t_mo, rfl, fun _ h => mi_in (mo_inu _ h), hk, mi_in (mo_inl h), t_mo_ok, n_mo_ok, hf, ht, ho⟩
theorem ln_of {w : Cond} {idx k i : Nat} {ty : FieldType} (hk : k < 60) (h : mo_wl[i]? = some (Cond.fieldLink mo_C idx (T_mo k).1 (T_mo k).2.1 (T_mo k).2.2.1)) (hf : (T_mo k).2.2.2 = false) (ht : parseFieldDescriptor (T_mo k).2.2.1 = some ty) : ev_FP cl_A (w :: mi_ws) mo_C idx mo_ci k ty :=
  ⟨R_mo, T_mo, 60, t_mo, rfl, fun _ h => mi_in (mo_inu _ h), hk, mi_in (mo_inl h), t_mo_ok, n_mo_ok, hf, ht⟩
def mp_fv (n : Nat) (am : Nat → Nat) (F : Nat → Int32) (k : Nat) : Value := if (mo_R.take n).contains k then .ref (am k) else if mo_R.contains k then .null else .int (F k)
def mp_fs (n : Nat) (am : Nat → Nat) (F : Nat → Int32) : List Value := (List.range 60).map (mp_fv n am F)
def mp_W (n : Nat) (am : Nat → Nat) (kI kZ : ClassId) (F : Nat → Int32) : va_W := (am 60, .inr (mo_ci, mp_fs n am F)) :: (mo_R.take n).map (fun k => (am k, mo_arr kI kZ (fun _ _ => 0) k))
theorem mp_len (n : Nat) (am : Nat → Nat) (F : Nat → Int32) : (mp_fs n am F).length = 60 := by simp [mp_fs]
theorem mp_get (n : Nat) (am : Nat → Nat) (F : Nat → Int32) {k : Nat} (h : k < 60) : (mp_fs n am F)[k]? = some (mp_fv n am F k) := by
  simp [mp_fs, h]
theorem mp_set {n n' : Nat} {am am' : Nat → Nat} {F F' : Nat → Int32} {k : Nat} {v : Value} (hk : k < 60) (hv : mp_fv n' am' F' k = v) (hj : ∀ j, j < 60 → j ≠ k → mp_fv n' am' F' j = mp_fv n am F j) : (mp_fs n am F).set k v = mp_fs n' am' F' := by
  apply List.ext_getElem?
  intro j
  by_cases e : k = j
  · subst e
    rw [List.getElem?_set_self (by rw [mp_len]; exact hk), mp_get _ _ _ hk, hv]
  · rw [List.getElem?_set_ne e]
    by_cases hj6 : j < 60
    · rw [mp_get _ _ _ hj6, mp_get _ _ _ hj6, hj j hj6 (fun z => e z.symm)]
    · rw [List.getElem?_eq_none (by rw [mp_len]; omega), List.getElem?_eq_none (by rw [mp_len]; omega)]
theorem mp_tk {n k : Nat} (hk : mo_R[n]? = some k) : mo_R.take (n + 1) = mo_R.take n ++ [k] := by
  rw [List.take_succ, hk]; rfl
theorem mp_w {n k q : Nat} {am : Nat → Nat} {kI kZ : ClassId} {F : Nat → Int32} (hk : mo_R[n]? = some k) (hn : k ∉ mo_R.take n) : ((mp_W n am kI kZ F) ++ [(q, mo_arr kI kZ (fun _ _ => 0) k)]).set 0 (am 60, .inr (mo_ci, (mp_fs n am F).set k (.ref q))) = mp_W (n + 1) (va_up am k q) kI kZ F := by
  have k60 := mo_lt_of hk
  have hc : ∀ j, (mo_R.take (n + 1)).contains j = ((mo_R.take n).contains j || (j == k)) := fun j => by
    rw [mp_tk hk, List.contains_append]
    congr 1
    rw [List.contains_cons]
    simp
  rw [mp_W, mp_W, List.cons_append, List.set_cons_zero, va_up_ne _ _ (by omega), mp_tk hk, List.map_append]
  congr 1
  · congr 3
    refine mp_set k60 ?_ (fun j hj hne => ?_)
    · rw [mp_fv, hc k]
      simp [va_up_self]
    · rw [mp_fv, mp_fv, hc j, va_up_ne _ _ hne]
      have : (j == k) = false := by simpa using hne
      rw [this, Bool.or_false]
  · congr 1
    · refine List.map_congr_left fun j hj => ?_
      rw [va_up_ne _ _ (fun z => hn (by rw [← z]; exact hj))]
    · rw [List.map_cons, List.map_nil, va_up_self]
section MI
variable {l : Launch} {D : va_G} {tl : List (ClassId × FieldType)} {Z : (Nat → Prop) → State → Heap → Prop} {kI kZ : ClassId} {am : Nat → Nat} {F : Nat → Int32} {E : ev_T} {cells slots : Nat}
theorem mp_stI {n k idx len : Nat} (pc : Nat) (d1 : decode c_mo_init pc = .ok (.newarray .int, 2)) (d2 : decode c_mo_init (pc + 2) = .ok (.putfield idx, 3)) (hF : ev_FF cl_A m_mo_init.2.2.2.2.1 mo_C idx mo_ci k (.array .int)) (hk : mo_R[n]? = some k) (hn : k ∉ mo_R.take n) (hz : mo_Zs.contains k = false) (hl : mo_len k = len) (hl2 : len ≤ 100000) (hc : cells + 1 ≤ m_mo_init.2.2.2.2.2.cells) (hs : slots + len ≤ m_mo_init.2.2.2.2.2.slots)
    (kk : ∀ am' : Nat → Nat, am' 60 = am 60 → EV (mo_π l D cl_A kI kZ tl Z) m_mo_init E (cells + 1) (slots + len) (pc + 5) [some (.ref (am' 60))] [] (mp_W (n + 1) am' kI kZ F)) : EV (mo_π l D cl_A kI kZ tl Z) m_mo_init E cells slots pc [some (.ref (am 60))] [.int (nI len), .ref (am 60)] (mp_W n am kI kZ F) := by
  have k60 := mo_lt_of hk
  refine ev_newa (ty := .int) (kA := kI) (N' := len) (a0 := (len, .inl (fun _ => 0))) pc 0 d1 (mi_ix (i := 3) rfl) rfl rfl (fun cA => rfl) (nI_pos (by omega)) (nI_clamp (by omega)) (by show len * 4 ≤ _; omega) hc hs (fun q _ => ?_)
  refine ev_putF (fs := mp_fs n am F) (pc + 2) 0 k d2 hF rfl rfl (by rw [mp_len]; exact k60) rfl rfl ?_
  have ea : (.inl (kI, len, .inl (fun _ => 0)) : va_E) = mo_arr kI kZ (fun _ _ => 0) k := by rw [mo_arr, hz, hl]; rfl
  rw [ea, mp_w hk hn]
  exact ev_eq (kk (va_up am k q) (va_up_ne _ _ (by omega))) (h1 := by rw [va_up_ne _ _ (show 60 ≠ k by omega)])
theorem mp_stZ {n k idx len : Nat} (pc : Nat) (d1 : decode c_mo_init pc = .ok (.newarray .boolean, 2)) (d2 : decode c_mo_init (pc + 2) = .ok (.putfield idx, 3)) (hF : ev_FF cl_A m_mo_init.2.2.2.2.1 mo_C idx mo_ci k (.array .boolean)) (hk : mo_R[n]? = some k) (hn : k ∉ mo_R.take n) (hz : mo_Zs.contains k = true) (hl : mo_len k = len) (hl2 : len ≤ 100000) (hc : cells + 1 ≤ m_mo_init.2.2.2.2.2.cells) (hs : slots + len ≤ m_mo_init.2.2.2.2.2.slots)
    (kk : ∀ am' : Nat → Nat, am' 60 = am 60 → EV (mo_π l D cl_A kI kZ tl Z) m_mo_init E (cells + 1) (slots + len) (pc + 5) [some (.ref (am' 60))] [] (mp_W (n + 1) am' kI kZ F)) : EV (mo_π l D cl_A kI kZ tl Z) m_mo_init E cells slots pc [some (.ref (am 60))] [.int (nI len), .ref (am 60)] (mp_W n am kI kZ F) := by
  have k60 := mo_lt_of hk
  refine ev_newa (ty := .boolean) (kA := kZ) (N' := len) (a0 := (len, .inl (fun _ => 0))) pc 1 d1 (mi_ix (i := 4) rfl) rfl rfl (fun cA => rfl) (nI_pos (by omega)) (nI_clamp (by omega)) (by show len * 1 ≤ _; omega) hc hs (fun q _ => ?_)
  refine ev_putF (fs := mp_fs n am F) (pc + 2) 0 k d2 hF rfl rfl (by rw [mp_len]; exact k60) rfl rfl ?_
  have ea : (.inl (kZ, len, .inl (fun _ => 0)) : va_E) = mo_arr kI kZ (fun _ _ => 0) k := by rw [mo_arr, hz, hl]; rfl
  rw [ea, mp_w hk hn]
  exact ev_eq (kk (va_up am k q) (va_up_ne _ _ (by omega))) (h1 := by rw [va_up_ne _ _ (show 60 ≠ k by omega)])
end MI
theorem mp_0 (am : Nat → Nat) : mp_fs 0 am (fun _ => 0) = (List.range 60).map (fun j => defaultValue (t_mo j)) := by
  unfold mp_fs
  refine List.map_congr_left fun j hj => ?_
  have h : ∀ j, j < 60 → (mp_fv 0 (fun _ => 0) (fun _ => 0) j = defaultValue (t_mo j)) ∧ (mo_R.take 0).contains j = false := by decide +kernel
  rw [← (h j (List.mem_range.mp hj)).1]
  rw [mp_fv, mp_fv, (h j (List.mem_range.mp hj)).2]
  rfl
theorem mp_42 (am : Nat → Nat) (kI kZ : ClassId) (F : Nat → Int32) : mp_W 42 am kI kZ F = mo_W mo_ci am kI kZ F (fun _ _ => 0) := by
  have e : mo_R.take 42 = mo_R := rfl
  rw [mp_W, mo_W, e]
  congr 3

set_option maxHeartbeats 4000000 in
set_option maxRecDepth 100000 in
theorem mt_init {l : Launch} {D : va_G} {tl : List (ClassId × FieldType)} {Z : (Nat → Prop) → State → Heap → Prop} {kI kZ : ClassId} {am : Nat → Nat} : MT (mo_π l D cl_A kI kZ tl Z) m_mo_init 42 6850 [.ref (am 60)] (mp_W 0 am kI kZ (fun _ => 0)) (fun r w => r = none ∧ ∃ am', am' 60 = am 60 ∧ w = mo_W mo_ci am' kI kZ (upd (fun _ => 0) 35 (-1)) (fun _ _ => 0)) := by
  refine mt_of mo_pl rfl (Nat.le_of_ble_eq_true rfl) (ev_eq (lv' := [some (.ref (am 60))]) ?_)
  refine ev_aload_0 0 d_mo_init_0 ?_
  refine ev_obj 1 d_mo_init_1 (mi_ix (i := 0) rfl) (mi_ix (i := 1) rfl) (mi_ix (i := 2) rfl) (show 1 ≤ 2 by decide) (show 20 ≤ 80 by decide) ?_
  refine ev_aload_0 4 d_mo_init_4 ?_
  refine ev_bipush (32) 5 d_mo_init_5 (by decide) ?_
  refine mp_stI (n := 0) (k := 2) (len := 32) 7 d_mo_init_7 d_mo_init_9 (lm_of (i := 1) (by decide) rfl rfl (by decide +kernel) rfl) rfl (by decide) rfl rfl (by decide) (by exact Nat.le_of_ble_eq_true rfl) (by exact Nat.le_of_ble_eq_true rfl) (fun am1 e1 => ?_)
  refine ev_aload_0 12 d_mo_init_12 ?_
  refine ev_bipush (32) 13 d_mo_init_13 (by decide) ?_
  refine mp_stI (n := 1) (k := 3) (len := 32) 15 d_mo_init_15 d_mo_init_17 (lm_of (i := 2) (by decide) rfl rfl (by decide +kernel) rfl) rfl (by decide) rfl rfl (by decide) (by exact Nat.le_of_ble_eq_true rfl) (by exact Nat.le_of_ble_eq_true rfl) (fun am2 e2 => ?_)
  refine ev_aload_0 20 d_mo_init_20 ?_
  refine ev_bipush (32) 21 d_mo_init_21 (by decide) ?_
  refine mp_stI (n := 2) (k := 4) (len := 32) 23 d_mo_init_23 d_mo_init_25 (lm_of (i := 3) (by decide) rfl rfl (by decide +kernel) rfl) rfl (by decide) rfl rfl (by decide) (by exact Nat.le_of_ble_eq_true rfl) (by exact Nat.le_of_ble_eq_true rfl) (fun am3 e3 => ?_)
  refine ev_aload_0 28 d_mo_init_28 ?_
  refine ev_bipush (32) 29 d_mo_init_29 (by decide) ?_
  refine mp_stI (n := 3) (k := 5) (len := 32) 31 d_mo_init_31 d_mo_init_33 (lm_of (i := 4) (by decide) rfl rfl (by decide +kernel) rfl) rfl (by decide) rfl rfl (by decide) (by exact Nat.le_of_ble_eq_true rfl) (by exact Nat.le_of_ble_eq_true rfl) (fun am4 e4 => ?_)
  refine ev_aload_0 36 d_mo_init_36 ?_
  refine ev_bipush (32) 37 d_mo_init_37 (by decide) ?_
  refine mp_stI (n := 4) (k := 6) (len := 32) 39 d_mo_init_39 d_mo_init_41 (lm_of (i := 5) (by decide) rfl rfl (by decide +kernel) rfl) rfl (by decide) rfl rfl (by decide) (by exact Nat.le_of_ble_eq_true rfl) (by exact Nat.le_of_ble_eq_true rfl) (fun am5 e5 => ?_)
  refine ev_aload_0 44 d_mo_init_44 ?_
  refine ev_bipush (32) 45 d_mo_init_45 (by decide) ?_
  refine mp_stI (n := 5) (k := 7) (len := 32) 47 d_mo_init_47 d_mo_init_49 (lm_of (i := 6) (by decide) rfl rfl (by decide +kernel) rfl) rfl (by decide) rfl rfl (by decide) (by exact Nat.le_of_ble_eq_true rfl) (by exact Nat.le_of_ble_eq_true rfl) (fun am6 e6 => ?_)
  refine ev_aload_0 52 d_mo_init_52 ?_
  refine ev_sipush (192) 53 d_mo_init_53 (by decide) ?_
  refine mp_stI (n := 6) (k := 8) (len := 192) 56 d_mo_init_56 d_mo_init_58 (lm_of (i := 7) (by decide) rfl rfl (by decide +kernel) rfl) rfl (by decide) rfl rfl (by decide) (by exact Nat.le_of_ble_eq_true rfl) (by exact Nat.le_of_ble_eq_true rfl) (fun am7 e7 => ?_)
  refine ev_aload_0 61 d_mo_init_61 ?_
  refine ev_sipush (192) 62 d_mo_init_62 (by decide) ?_
  refine mp_stI (n := 7) (k := 9) (len := 192) 65 d_mo_init_65 d_mo_init_67 (lm_of (i := 8) (by decide) rfl rfl (by decide +kernel) rfl) rfl (by decide) rfl rfl (by decide) (by exact Nat.le_of_ble_eq_true rfl) (by exact Nat.le_of_ble_eq_true rfl) (fun am8 e8 => ?_)
  refine ev_aload_0 70 d_mo_init_70 ?_
  refine ev_bipush (6) 71 d_mo_init_71 (by decide) ?_
  refine mp_stI (n := 8) (k := 11) (len := 6) 73 d_mo_init_73 d_mo_init_75 (lm_of (i := 9) (by decide) rfl rfl (by decide +kernel) rfl) rfl (by decide) rfl rfl (by decide) (by exact Nat.le_of_ble_eq_true rfl) (by exact Nat.le_of_ble_eq_true rfl) (fun am9 e9 => ?_)
  refine ev_aload_0 78 d_mo_init_78 ?_
  refine ev_sipush (1536) 79 d_mo_init_79 (by decide) ?_
  refine mp_stI (n := 9) (k := 13) (len := 1536) 82 d_mo_init_82 d_mo_init_84 (lm_of (i := 10) (by decide) rfl rfl (by decide +kernel) rfl) rfl (by decide) rfl rfl (by decide) (by exact Nat.le_of_ble_eq_true rfl) (by exact Nat.le_of_ble_eq_true rfl) (fun am10 e10 => ?_)
  refine ev_aload_0 87 d_mo_init_87 ?_
  refine ev_bipush (6) 88 d_mo_init_88 (by decide) ?_
  refine mp_stI (n := 10) (k := 14) (len := 6) 90 d_mo_init_90 d_mo_init_92 (lm_of (i := 11) (by decide) rfl rfl (by decide +kernel) rfl) rfl (by decide) rfl rfl (by decide) (by exact Nat.le_of_ble_eq_true rfl) (by exact Nat.le_of_ble_eq_true rfl) (fun am11 e11 => ?_)
  refine ev_aload_0 95 d_mo_init_95 ?_
  refine ev_bipush (6) 96 d_mo_init_96 (by decide) ?_
  refine mp_stI (n := 11) (k := 15) (len := 6) 98 d_mo_init_98 d_mo_init_100 (lm_of (i := 12) (by decide) rfl rfl (by decide +kernel) rfl) rfl (by decide) rfl rfl (by decide) (by exact Nat.le_of_ble_eq_true rfl) (by exact Nat.le_of_ble_eq_true rfl) (fun am12 e12 => ?_)
  refine ev_aload_0 103 d_mo_init_103 ?_
  refine ev_bipush (102) 104 d_mo_init_104 (by decide) ?_
  refine mp_stZ (n := 12) (k := 16) (len := 102) 106 d_mo_init_106 d_mo_init_108 (lm_of (i := 13) (by decide) rfl rfl (by decide +kernel) rfl) rfl (by decide) rfl rfl (by decide) (by exact Nat.le_of_ble_eq_true rfl) (by exact Nat.le_of_ble_eq_true rfl) (fun am13 e13 => ?_)
  refine ev_aload_0 111 d_mo_init_111 ?_
  refine ev_bipush (102) 112 d_mo_init_112 (by decide) ?_
  refine mp_stI (n := 13) (k := 17) (len := 102) 114 d_mo_init_114 d_mo_init_116 (lm_of (i := 14) (by decide) rfl rfl (by decide +kernel) rfl) rfl (by decide) rfl rfl (by decide) (by exact Nat.le_of_ble_eq_true rfl) (by exact Nat.le_of_ble_eq_true rfl) (fun am14 e14 => ?_)
  refine ev_aload_0 119 d_mo_init_119 ?_
  refine ev_bipush (102) 120 d_mo_init_120 (by decide) ?_
  refine mp_stZ (n := 14) (k := 18) (len := 102) 122 d_mo_init_122 d_mo_init_124 (lm_of (i := 15) (by decide) rfl rfl (by decide +kernel) rfl) rfl (by decide) rfl rfl (by decide) (by exact Nat.le_of_ble_eq_true rfl) (by exact Nat.le_of_ble_eq_true rfl) (fun am15 e15 => ?_)
  refine ev_aload_0 127 d_mo_init_127 ?_
  refine ev_bipush (102) 128 d_mo_init_128 (by decide) ?_
  refine mp_stI (n := 15) (k := 19) (len := 102) 130 d_mo_init_130 d_mo_init_132 (lm_of (i := 16) (by decide) rfl rfl (by decide +kernel) rfl) rfl (by decide) rfl rfl (by decide) (by exact Nat.le_of_ble_eq_true rfl) (by exact Nat.le_of_ble_eq_true rfl) (fun am16 e16 => ?_)
  refine ev_aload_0 135 d_mo_init_135 ?_
  refine ev_bipush (102) 136 d_mo_init_136 (by decide) ?_
  refine mp_stZ (n := 16) (k := 20) (len := 102) 138 d_mo_init_138 d_mo_init_140 (lm_of (i := 17) (by decide) rfl rfl (by decide +kernel) rfl) rfl (by decide) rfl rfl (by decide) (by exact Nat.le_of_ble_eq_true rfl) (by exact Nat.le_of_ble_eq_true rfl) (fun am17 e17 => ?_)
  refine ev_aload_0 143 d_mo_init_143 ?_
  refine ev_bipush (102) 144 d_mo_init_144 (by decide) ?_
  refine mp_stI (n := 17) (k := 21) (len := 102) 146 d_mo_init_146 d_mo_init_148 (lm_of (i := 18) (by decide) rfl rfl (by decide +kernel) rfl) rfl (by decide) rfl rfl (by decide) (by exact Nat.le_of_ble_eq_true rfl) (by exact Nat.le_of_ble_eq_true rfl) (fun am18 e18 => ?_)
  refine ev_aload_0 151 d_mo_init_151 ?_
  refine ev_sipush (1024) 152 d_mo_init_152 (by decide) ?_
  refine mp_stI (n := 18) (k := 23) (len := 1024) 155 d_mo_init_155 d_mo_init_157 (lm_of (i := 19) (by decide) rfl rfl (by decide +kernel) rfl) rfl (by decide) rfl rfl (by decide) (by exact Nat.le_of_ble_eq_true rfl) (by exact Nat.le_of_ble_eq_true rfl) (fun am19 e19 => ?_)
  refine ev_aload_0 160 d_mo_init_160 ?_
  refine ev_sipush (1024) 161 d_mo_init_161 (by decide) ?_
  refine mp_stZ (n := 19) (k := 24) (len := 1024) 164 d_mo_init_164 d_mo_init_166 (lm_of (i := 20) (by decide) rfl rfl (by decide +kernel) rfl) rfl (by decide) rfl rfl (by decide) (by exact Nat.le_of_ble_eq_true rfl) (by exact Nat.le_of_ble_eq_true rfl) (fun am20 e20 => ?_)
  refine ev_aload_0 169 d_mo_init_169 ?_
  refine ev_bipush (12) 170 d_mo_init_170 (by decide) ?_
  refine mp_stI (n := 20) (k := 26) (len := 12) 172 d_mo_init_172 d_mo_init_174 (lm_of (i := 21) (by decide) rfl rfl (by decide +kernel) rfl) rfl (by decide) rfl rfl (by decide) (by exact Nat.le_of_ble_eq_true rfl) (by exact Nat.le_of_ble_eq_true rfl) (fun am21 e21 => ?_)
  refine ev_aload_0 177 d_mo_init_177 ?_
  refine ev_bipush (12) 178 d_mo_init_178 (by decide) ?_
  refine mp_stI (n := 21) (k := 27) (len := 12) 180 d_mo_init_180 d_mo_init_182 (lm_of (i := 22) (by decide) rfl rfl (by decide +kernel) rfl) rfl (by decide) rfl rfl (by decide) (by exact Nat.le_of_ble_eq_true rfl) (by exact Nat.le_of_ble_eq_true rfl) (fun am22 e22 => ?_)
  refine ev_aload_0 185 d_mo_init_185 ?_
  refine ev_bipush (12) 186 d_mo_init_186 (by decide) ?_
  refine mp_stI (n := 22) (k := 28) (len := 12) 188 d_mo_init_188 d_mo_init_190 (lm_of (i := 23) (by decide) rfl rfl (by decide +kernel) rfl) rfl (by decide) rfl rfl (by decide) (by exact Nat.le_of_ble_eq_true rfl) (by exact Nat.le_of_ble_eq_true rfl) (fun am23 e23 => ?_)
  refine ev_aload_0 193 d_mo_init_193 ?_
  refine ev_bipush (6) 194 d_mo_init_194 (by decide) ?_
  refine mp_stI (n := 23) (k := 30) (len := 6) 196 d_mo_init_196 d_mo_init_198 (lm_of (i := 24) (by decide) rfl rfl (by decide +kernel) rfl) rfl (by decide) rfl rfl (by decide) (by exact Nat.le_of_ble_eq_true rfl) (by exact Nat.le_of_ble_eq_true rfl) (fun am24 e24 => ?_)
  refine ev_aload_0 201 d_mo_init_201 ?_
  refine ev_bipush (6) 202 d_mo_init_202 (by decide) ?_
  refine mp_stI (n := 24) (k := 31) (len := 6) 204 d_mo_init_204 d_mo_init_206 (lm_of (i := 25) (by decide) rfl rfl (by decide +kernel) rfl) rfl (by decide) rfl rfl (by decide) (by exact Nat.le_of_ble_eq_true rfl) (by exact Nat.le_of_ble_eq_true rfl) (fun am25 e25 => ?_)
  refine ev_aload_0 209 d_mo_init_209 ?_
  refine ev_bipush (6) 210 d_mo_init_210 (by decide) ?_
  refine mp_stI (n := 25) (k := 32) (len := 6) 212 d_mo_init_212 d_mo_init_214 (lm_of (i := 26) (by decide) rfl rfl (by decide +kernel) rfl) rfl (by decide) rfl rfl (by decide) (by exact Nat.le_of_ble_eq_true rfl) (by exact Nat.le_of_ble_eq_true rfl) (fun am26 e26 => ?_)
  refine ev_aload_0 217 d_mo_init_217 ?_
  refine ev_iconst_m1 218 d_mo_init_218 ?_
  refine ev_put (fs := mp_fs 26 am26 (fun _ => 0)) 219 0 35 d_mo_init_219 (ln_of (ty := .int) (i := 27) (by decide) rfl rfl (by decide +kernel)) rfl (by rw [mp_len]; decide) (vp_nar_int _) rfl ?_
  refine ev_eq (ws' := mp_W 26 am26 kI kZ (upd (fun _ => 0) 35 (-1))) ?_ (h3 := by rw [mp_W, List.set_cons_zero, mp_W, mp_set (n' := 26) (am' := am26) (F' := upd (fun _ => 0) 35 (-1)) (k := 35) (v := .int (-1)) (by decide) rfl (fun j _ hne => by rw [mp_fv, mp_fv, upd_ne hne])])
  refine ev_aload_0 222 d_mo_init_222 ?_
  refine ev_bipush (64) 223 d_mo_init_223 (by decide) ?_
  refine mp_stI (n := 26) (k := 37) (len := 64) 225 d_mo_init_225 d_mo_init_227 (lm_of (i := 28) (by decide) rfl rfl (by decide +kernel) rfl) rfl (by decide) rfl rfl (by decide) (by exact Nat.le_of_ble_eq_true rfl) (by exact Nat.le_of_ble_eq_true rfl) (fun am27 e27 => ?_)
  refine ev_aload_0 230 d_mo_init_230 ?_
  refine ev_bipush (64) 231 d_mo_init_231 (by decide) ?_
  refine mp_stI (n := 27) (k := 38) (len := 64) 233 d_mo_init_233 d_mo_init_235 (lm_of (i := 29) (by decide) rfl rfl (by decide +kernel) rfl) rfl (by decide) rfl rfl (by decide) (by exact Nat.le_of_ble_eq_true rfl) (by exact Nat.le_of_ble_eq_true rfl) (fun am28 e28 => ?_)
  refine ev_aload_0 238 d_mo_init_238 ?_
  refine ev_bipush (64) 239 d_mo_init_239 (by decide) ?_
  refine mp_stI (n := 28) (k := 39) (len := 64) 241 d_mo_init_241 d_mo_init_243 (lm_of (i := 30) (by decide) rfl rfl (by decide +kernel) rfl) rfl (by decide) rfl rfl (by decide) (by exact Nat.le_of_ble_eq_true rfl) (by exact Nat.le_of_ble_eq_true rfl) (fun am29 e29 => ?_)
  refine ev_aload_0 246 d_mo_init_246 ?_
  refine ev_bipush (64) 247 d_mo_init_247 (by decide) ?_
  refine mp_stI (n := 29) (k := 40) (len := 64) 249 d_mo_init_249 d_mo_init_251 (lm_of (i := 31) (by decide) rfl rfl (by decide +kernel) rfl) rfl (by decide) rfl rfl (by decide) (by exact Nat.le_of_ble_eq_true rfl) (by exact Nat.le_of_ble_eq_true rfl) (fun am30 e30 => ?_)
  refine ev_aload_0 254 d_mo_init_254 ?_
  refine ev_bipush (64) 255 d_mo_init_255 (by decide) ?_
  refine mp_stI (n := 30) (k := 41) (len := 64) 257 d_mo_init_257 d_mo_init_259 (lm_of (i := 32) (by decide) rfl rfl (by decide +kernel) rfl) rfl (by decide) rfl rfl (by decide) (by exact Nat.le_of_ble_eq_true rfl) (by exact Nat.le_of_ble_eq_true rfl) (fun am31 e31 => ?_)
  refine ev_aload_0 262 d_mo_init_262 ?_
  refine ev_bipush (64) 263 d_mo_init_263 (by decide) ?_
  refine mp_stI (n := 31) (k := 42) (len := 64) 265 d_mo_init_265 d_mo_init_267 (lm_of (i := 33) (by decide) rfl rfl (by decide +kernel) rfl) rfl (by decide) rfl rfl (by decide) (by exact Nat.le_of_ble_eq_true rfl) (by exact Nat.le_of_ble_eq_true rfl) (fun am32 e32 => ?_)
  refine ev_aload_0 270 d_mo_init_270 ?_
  refine ev_sipush (200) 271 d_mo_init_271 (by decide) ?_
  refine mp_stI (n := 32) (k := 44) (len := 200) 274 d_mo_init_274 d_mo_init_276 (lm_of (i := 34) (by decide) rfl rfl (by decide +kernel) rfl) rfl (by decide) rfl rfl (by decide) (by exact Nat.le_of_ble_eq_true rfl) (by exact Nat.le_of_ble_eq_true rfl) (fun am33 e33 => ?_)
  refine ev_aload_0 279 d_mo_init_279 ?_
  refine ev_sipush (200) 280 d_mo_init_280 (by decide) ?_
  refine mp_stI (n := 33) (k := 45) (len := 200) 283 d_mo_init_283 d_mo_init_285 (lm_of (i := 35) (by decide) rfl rfl (by decide +kernel) rfl) rfl (by decide) rfl rfl (by decide) (by exact Nat.le_of_ble_eq_true rfl) (by exact Nat.le_of_ble_eq_true rfl) (fun am34 e34 => ?_)
  refine ev_aload_0 288 d_mo_init_288 ?_
  refine ev_sipush (200) 289 d_mo_init_289 (by decide) ?_
  refine mp_stI (n := 34) (k := 46) (len := 200) 292 d_mo_init_292 d_mo_init_294 (lm_of (i := 36) (by decide) rfl rfl (by decide +kernel) rfl) rfl (by decide) rfl rfl (by decide) (by exact Nat.le_of_ble_eq_true rfl) (by exact Nat.le_of_ble_eq_true rfl) (fun am35 e35 => ?_)
  refine ev_aload_0 297 d_mo_init_297 ?_
  refine ev_sipush (200) 298 d_mo_init_298 (by decide) ?_
  refine mp_stI (n := 35) (k := 47) (len := 200) 301 d_mo_init_301 d_mo_init_303 (lm_of (i := 37) (by decide) rfl rfl (by decide +kernel) rfl) rfl (by decide) rfl rfl (by decide) (by exact Nat.le_of_ble_eq_true rfl) (by exact Nat.le_of_ble_eq_true rfl) (fun am36 e36 => ?_)
  refine ev_aload_0 306 d_mo_init_306 ?_
  refine ev_sipush (200) 307 d_mo_init_307 (by decide) ?_
  refine mp_stI (n := 36) (k := 48) (len := 200) 310 d_mo_init_310 d_mo_init_312 (lm_of (i := 38) (by decide) rfl rfl (by decide +kernel) rfl) rfl (by decide) rfl rfl (by decide) (by exact Nat.le_of_ble_eq_true rfl) (by exact Nat.le_of_ble_eq_true rfl) (fun am37 e37 => ?_)
  refine ev_aload_0 315 d_mo_init_315 ?_
  refine ev_sipush (200) 316 d_mo_init_316 (by decide) ?_
  refine mp_stI (n := 37) (k := 49) (len := 200) 319 d_mo_init_319 d_mo_init_321 (lm_of (i := 39) (by decide) rfl rfl (by decide +kernel) rfl) rfl (by decide) rfl rfl (by decide) (by exact Nat.le_of_ble_eq_true rfl) (by exact Nat.le_of_ble_eq_true rfl) (fun am38 e38 => ?_)
  refine ev_aload_0 324 d_mo_init_324 ?_
  refine ev_sipush (200) 325 d_mo_init_325 (by decide) ?_
  refine mp_stI (n := 38) (k := 50) (len := 200) 328 d_mo_init_328 d_mo_init_330 (lm_of (i := 40) (by decide) rfl rfl (by decide +kernel) rfl) rfl (by decide) rfl rfl (by decide) (by exact Nat.le_of_ble_eq_true rfl) (by exact Nat.le_of_ble_eq_true rfl) (fun am39 e39 => ?_)
  refine ev_aload_0 333 d_mo_init_333 ?_
  refine ev_sipush (200) 334 d_mo_init_334 (by decide) ?_
  refine mp_stI (n := 39) (k := 51) (len := 200) 337 d_mo_init_337 d_mo_init_339 (lm_of (i := 41) (by decide) rfl rfl (by decide +kernel) rfl) rfl (by decide) rfl rfl (by decide) (by exact Nat.le_of_ble_eq_true rfl) (by exact Nat.le_of_ble_eq_true rfl) (fun am40 e40 => ?_)
  refine ev_aload_0 342 d_mo_init_342 ?_
  refine ev_bipush (16) 343 d_mo_init_343 (by decide) ?_
  refine mp_stI (n := 40) (k := 53) (len := 16) 345 d_mo_init_345 d_mo_init_347 (lm_of (i := 42) (by decide) rfl rfl (by decide +kernel) rfl) rfl (by decide) rfl rfl (by decide) (by exact Nat.le_of_ble_eq_true rfl) (by exact Nat.le_of_ble_eq_true rfl) (fun am41 e41 => ?_)
  refine ev_aload_0 350 d_mo_init_350 ?_
  refine ev_bipush (6) 351 d_mo_init_351 (by decide) ?_
  refine mp_stI (n := 41) (k := 59) (len := 6) 353 d_mo_init_353 d_mo_init_355 (lm_of (i := 43) (by decide) rfl rfl (by decide +kernel) rfl) rfl (by decide) rfl rfl (by decide) (by exact Nat.le_of_ble_eq_true rfl) (by exact Nat.le_of_ble_eq_true rfl) (fun am42 e42 => ?_)
  refine ev_pad 42 6850 (by exact Nat.le_of_ble_eq_true rfl) (by exact Nat.le_of_ble_eq_true rfl) ?_
  refine ev_vret 358 d_mo_init_358 rfl ?_
  exact ⟨rfl, am42, by rw [e42, e41, e40, e39, e38, e37, e36, e35, e34, e33, e32, e31, e30, e29, e28, e27, e26, e25, e24, e23, e22, e21, e20, e19, e18, e17, e16, e15, e14, e13, e12, e11, e10, e9, e8, e7, e6, e5, e4, e3, e2, e1], mp_42 _ _ _ _⟩
