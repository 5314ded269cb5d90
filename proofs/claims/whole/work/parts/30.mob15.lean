/-- n bytes from a on are laid from b on -/
def mo_cp (f : Nat → Int32) (a b : Nat) : Nat → Nat → Int32
  | 0 => f
  | n + 1 => upd (mo_cp f a b n) (b + n) (mo_cp f a b n (a + n))
/-- where an item goes -/
def wi_to (B : Nat → Nat → Int32) (it : Nat) : Int32 := if B 46 it < 0 then B 50 it else (if B 2 (B 44 (B 46 it).toNatClampNeg).toNatClampNeg = 8 then B 51 (B 46 it).toNatClampNeg else B 50 (B 46 it).toNatClampNeg) + B 47 it
def wi_t (B : Nat → Nat → Int32) (it to : Nat) : Nat → Nat → Int32 := va_up B 50 (upd (B 50) it (nI to))
/-- the bytes of a text or a list: its room, its place and number, a text's bytes -/
def wi_f (B : Nat → Nat → Int32) (ii J to pl k mn fr : Nat) (tx : Prop) [Decidable tx] : Nat → Int32 := if tx then mo_cp (mo_pb (mo_pb (mo_zf (B 13) (256 * J + pl) k) (256 * J + to) (nI pl) 2) (256 * J + (to + 2)) (nI mn) 2) (256 * ii + fr) (256 * J + pl) mn else mo_pb (mo_pb (mo_zf (B 13) (256 * J + pl) k) (256 * J + to) (nI pl) 2) (256 * J + (to + 2)) (nI mn) 2
def wi_l (F : Nat → Int32) (B : Nat → Nat → Int32) (ii J it to hp k al mn fr : Nat) (tx : Prop) [Decidable tx] : (Nat → Int32) × (Nat → Nat → Int32) :=
  if 256 < mo_ut hp al + k then (mo_fl F 11 (nI (mo_ut hp al)), va_up (wi_t B it to) 51 (upd (B 51) it 0))
  else (F, va_up (va_up (va_up (va_up (wi_t B it to) 13 (mo_zf (B 13) (256 * J + mo_ut hp al) k)) 14 (upd (B 14) J (nI (mo_ut hp al + k)))) 51 (upd (B 51) it (nI (mo_ut hp al)))) 13 (wi_f B ii J to (mo_ut hp al) k mn fr tx))
/-- an item is written: the numbers (a fault among them) and the tables behind it -/
def wi_1 (F : Nat → Int32) (B : Nat → Nat → Int32) (ii J it uu to : Nat) : (Nat → Int32) × (Nat → Nat → Int32) :=
  if B 2 uu = 6 then wi_l F B ii J it to (B 14 J).toNatClampNeg (B 49 it).toNatClampNeg 1 (B 49 it).toNatClampNeg (B 48 it).toNatClampNeg True else
  if B 2 uu = 8 then wi_l F B ii J it to (B 14 J).toNatClampNeg ((B 49 it).toNatClampNeg * (B 4 (B 8 (6 * uu)).toNatClampNeg).toNatClampNeg) (B 5 (B 8 (6 * uu)).toNatClampNeg).toNatClampNeg (B 49 it).toNatClampNeg (B 48 it).toNatClampNeg False else
  if ¬ B 2 uu ≤ 10 then mo_wh F (wi_t B it to) J it else
  if B 2 uu = 9 then (F, wi_t B it to) else
  (F, va_up (wi_t B it to) 13 (mo_cp (B 13) (256 * ii + (B 45 it).toNatClampNeg) (256 * J + to) (if B 2 uu = 10 then 1 else (B 4 uu).toNatClampNeg)))
theorem wi_t0 {B : Nat → Nat → Int32} {it to : Nat} (h : B 50 it = nI to) : wi_t B it to = B := by
  rw [wi_t, upd_id h, mo_upid]
theorem mo_ut1 (hp : Nat) : mo_ut hp 1 = hp := by rw [mo_ut, Nat.div_one, Nat.mul_one]; omega

set_option maxHeartbeats 4000000 in
set_option maxRecDepth 100000 in
theorem mt_writeItem {l : Launch} {D : va_G} {tl : List (ClassId × FieldType)} {Z : (Nat → Prop) → State → Heap → Prop} {kI kZ : ClassId} {am : Nat → Nat} {F : Nat → Int32} {B : Nat → Nat → Int32} (hZ : ev_Zok Z) (ii : Nat) (J : Nat) (it : Nat) (hii : ii < 6) (hJ : J < 6) (hit : it < 200) (NT : Nat) (hNT : NT ≤ 32) (uu : Nat) (huu : uu < NT) (hU : B 44 it = nI uu) (to : Nat) (hto : wi_to B it = nI to) (hab : ¬ B 46 it < 0 → vp_in (B 46 it) 200 ∧ vp_in (B 44 (B 46 it).toNatClampNeg) 32) (h0 : F 54 = 0) (mn hp : Nat) (hhp : B 14 J = nI hp) (hp2 : hp ≤ 256) (hk68 : B 2 uu = 6 ∨ B 2 uu = 8 → B 49 it = nI mn ∧ mn ≤ 65535 ∧ to + 4 ≤ 256) (h6 : B 2 uu = 6 → ∃ fr, B 48 it = nI fr ∧ fr ≤ 65535 ∧ (mn = 0 ∨ fr + mn ≤ 256)) (h8l : B 2 uu = 8 → ∃ pu szp alp, B 8 (6 * uu) = nI pu ∧ pu < NT ∧ B 4 pu = nI szp ∧ szp ≤ 96 ∧ B 5 pu = nI alp ∧ 1 ≤ alp ∧ alp ≤ 8) (hha : ¬ B 2 uu ≤ 10 → vp_in (B 48 it) 102 ∧ to + 1 ≤ 256 ∧ (¬ mo_fh (B 16) (17 * J) 16 = 0 → vp_in (F 52) 16)) (hpl : ¬ B 2 uu = 6 → ¬ B 2 uu = 8 → B 2 uu ≤ 10 → ¬ B 2 uu = 9 → ∃ pp sz, B 45 it = nI pp ∧ B 4 uu = nI sz ∧ pp + (if B 2 uu = 10 then 1 else sz) ≤ 256 ∧ to + (if B 2 uu = 10 then 1 else sz) ≤ 256) : MT (mo_π l D cl_A kI kZ tl Z) m_writeItem 0 0 [.ref (am 60), .int (nI ii), .int (nI J), .int (nI it)] (mo_W mo_ci am kI kZ F B) (mo_qv am kI kZ (fun F1 B1 => F1 = (wi_1 F B ii J it uu to).1 ∧ B1 = (wi_1 F B ii J it uu to).2)) := by
  refine mt_of mo_pl rfl (Nat.le_of_ble_eq_true rfl) (ev_eq (lv' := [some (.ref (am 60)), some (.int (nI ii)), some (.int (nI J)), some (.int (nI it)), none, none, none, none, none]) ?_)
  have L206 : B 2 uu = 6 → ∀ fr, B 48 it = nI fr → fr ≤ 65535 ∧ (mn = 0 ∨ fr + mn ≤ 256) → ¬ 256 < mo_ut hp 1 + mn → ∀ m j : Nat, mn - j < m → j ≤ mn → EV (mo_π l D cl_A kI kZ tl Z) m_writeItem (ev_E (mo_π l D cl_A kI kZ tl Z) 0 0 (mo_qv am kI kZ (fun F1 B1 => F1 = (wi_1 F B ii J it uu to).1 ∧ B1 = (wi_1 F B ii J it uu to).2))) 0 0 206 [some (.ref (am 60)), some (.int (nI ii)), some (.int (nI J)), some (.int (nI it)), some (.int (nI uu)), some (.int (B 2 uu)), some (.int (B 46 it)), some (.int (nI mn)), some (.int (nI j))] [] (mo_W mo_ci am kI kZ F (va_up (va_up (va_up (va_up (wi_t B it to) 13 (mo_zf (B 13) (256 * J + mo_ut hp 1) mn)) 14 (upd (B 14) J (nI (mo_ut hp 1 + mn)))) 51 (upd (B 51) it (nI (mo_ut hp 1)))) 13 (mo_cp (mo_pb (mo_pb (mo_zf (B 13) (256 * J + mo_ut hp 1) mn) (256 * J + to) (nI (mo_ut hp 1)) 2) (256 * J + (to + 2)) (nI mn) 2) (256 * ii + fr) (256 * J + mo_ut hp 1) j))) := by
    intro hk6 fr hfr hfr2 hq
    obtain ⟨hm, hmn, hto4⟩ := hk68 (Or.inl hk6)
    intro m
    induction m with
    | zero => intro j h; omega
    | succ m ih =>
      intro j hmm hj
      refine ev_iload_8 206 d_mo_writeItem_206 ?_
      refine ev_iload_7 208 d_mo_writeItem_208 ?_
      refine ev_icmpge 210 266 d_mo_writeItem_210 (fun c210 => ?_) (fun c210 => ?_)
      · have h210 := n_le mn j c210
        have ej : j = mn := by omega
        subst j
        refine ev_goto 266 368 d_mo_writeItem_266 ?_
        refine ev_vret 368 d_mo_writeItem_368 rfl ?_
        exact ⟨_, _, rfl, rfl, by rw [wi_1, if_pos hk6, hhp, hm, hfr, nI_clamp (by omega), nI_clamp (by omega), nI_clamp (by omega), wi_l, if_neg hq], by rw [wi_1, if_pos hk6, hhp, hm, hfr, nI_clamp (by omega), nI_clamp (by omega), nI_clamp (by omega), wi_l, if_neg hq, wi_f, if_pos trivial]⟩
      · have h210 := n_nle mn j c210
        refine ev_iload_5 213 d_mo_writeItem_213 ?_
        refine ev_bipush (6) 215 d_mo_writeItem_215 (by decide) ?_
        refine ev_icmpne 217 266 d_mo_writeItem_217 (fun c217 => ?_) (fun c217 => ?_)
        · exact absurd hk6 c217
        · refine ev_aload_0 220 d_mo_writeItem_220 ?_
          refine mo_getr 221 9 13 d_mo_writeItem_221 lk_37 ?_
          refine ev_sipush (256) 224 d_mo_writeItem_224 (by decide) ?_
          refine ev_iload_2 227 d_mo_writeItem_227 ?_
          refine ev_imul 228 d_mo_writeItem_228 ?_
          refine ev_aload_0 229 d_mo_writeItem_229 ?_
          refine mo_getr 230 39 51 d_mo_writeItem_230 lk_132 ?_
          refine ev_iload_3 233 d_mo_writeItem_233 ?_
          refine mo_aldn (j := it) 234 39 51 d_mo_writeItem_234 (by exact hit) ?_
          refine ev_topi (nI (mo_ut hp 1)) (show upd (B 51) it (nI (mo_ut hp 1)) it = nI (mo_ut hp 1) from upd_eq) ?_
          refine ev_iadd 235 d_mo_writeItem_235 ?_
          refine ev_iload_8 236 d_mo_writeItem_236 ?_
          refine ev_iadd 238 d_mo_writeItem_238 ?_
          refine ev_aload_0 239 d_mo_writeItem_239 ?_
          refine mo_getr 240 9 13 d_mo_writeItem_240 lk_37 ?_
          refine ev_sipush (256) 243 d_mo_writeItem_243 (by decide) ?_
          refine ev_iload_1 246 d_mo_writeItem_246 ?_
          refine ev_imul 247 d_mo_writeItem_247 ?_
          refine ev_aload_0 248 d_mo_writeItem_248 ?_
          refine mo_getr 249 36 48 d_mo_writeItem_249 lk_123 ?_
          refine ev_iload_3 252 d_mo_writeItem_252 ?_
          refine mo_aldn (j := it) 253 36 48 d_mo_writeItem_253 (by exact hit) ?_
          refine ev_topi (nI fr) (show B 48 it = nI fr from hfr) ?_
          refine ev_iadd 254 d_mo_writeItem_254 ?_
          refine ev_iload_8 255 d_mo_writeItem_255 ?_
          refine ev_iadd 257 d_mo_writeItem_257 ?_
          refine ev_topi (nI (256 * ii + fr + j)) (by rw [n_256, pk_mul, nI_add, nI_add]) ?_
          refine mo_aldn (j := 256 * ii + fr + j) 258 9 13 d_mo_writeItem_258 (by show 256 * ii + fr + j < 1536; omega) ?_
          refine ev_sndi (nI (256 * J + mo_ut hp 1 + j)) (by rw [n_256, pk_mul, nI_add, nI_add]) ?_
          refine mo_astn (j := 256 * J + mo_ut hp 1 + j) 259 9 13 d_mo_writeItem_259 (by show 256 * J + mo_ut hp 1 + j < 1536; omega) ?_
          refine ev_iinc_8 260 d_mo_writeItem_260 ?_
          refine ev_goto 263 206 d_mo_writeItem_263 ?_
          exact ev_eq (ih (j + 1) (by omega) (by omega)) (h1 := by rw [n_i1]) (h3 := congrArg (mo_W mo_ci am kI kZ _) (bx_uu _ 13 _ _))
  have L315 : ∀ (q pp : Nat), ¬ B 2 uu = 6 → ¬ B 2 uu = 8 → B 2 uu ≤ 10 → ¬ B 2 uu = 9 → (if B 2 uu = 10 then 1 else (B 4 uu).toNatClampNeg) = q → B 45 it = nI pp → pp + q ≤ 256 → to + q ≤ 256 → ∀ m j : Nat, q - j < m → j ≤ q → EV (mo_π l D cl_A kI kZ tl Z) m_writeItem (ev_E (mo_π l D cl_A kI kZ tl Z) 0 0 (mo_qv am kI kZ (fun F1 B1 => F1 = (wi_1 F B ii J it uu to).1 ∧ B1 = (wi_1 F B ii J it uu to).2))) 0 0 315 [some (.ref (am 60)), some (.int (nI ii)), some (.int (nI J)), some (.int (nI it)), some (.int (nI uu)), some (.int (B 2 uu)), some (.int (B 46 it)), some (.int (nI q)), some (.int (nI j))] [] (mo_W mo_ci am kI kZ F (va_up (wi_t B it to) 13 (mo_cp (B 13) (256 * ii + pp) (256 * J + to) j))) := by
    intro q pp k6 k8 k10 k9 hq hpp h1 h2 m
    induction m with
    | zero => intro j h; omega
    | succ m ih =>
      intro j hm hj
      refine ev_iload_8 315 d_mo_writeItem_315 ?_
      refine ev_iload_7 317 d_mo_writeItem_317 ?_
      refine ev_icmpge 319 368 d_mo_writeItem_319 (fun c319 => ?_) (fun c319 => ?_)
      · have h319 := n_le q j c319
        have ej : j = q := by omega
        subst j
        refine ev_vret 368 d_mo_writeItem_368 rfl ?_
        exact ⟨_, _, rfl, rfl, by rw [wi_1, if_neg k6, if_neg k8, if_neg (fun z => z k10), if_neg k9], by rw [wi_1, if_neg k6, if_neg k8, if_neg (fun z => z k10), if_neg k9, hq, hpp, nI_clamp (by omega)]⟩
      · have h319 := n_nle q j c319
        refine ev_aload_0 322 d_mo_writeItem_322 ?_
        refine mo_getr 323 9 13 d_mo_writeItem_323 lk_37 ?_
        refine ev_sipush (256) 326 d_mo_writeItem_326 (by decide) ?_
        refine ev_iload_2 329 d_mo_writeItem_329 ?_
        refine ev_imul 330 d_mo_writeItem_330 ?_
        refine ev_aload_0 331 d_mo_writeItem_331 ?_
        refine mo_getr 332 38 50 d_mo_writeItem_332 lk_129 ?_
        refine ev_iload_3 335 d_mo_writeItem_335 ?_
        refine mo_aldn (j := it) 336 38 50 d_mo_writeItem_336 (by exact hit) ?_
        refine ev_topi (nI to) (show upd (B 50) it (nI to) it = nI to from upd_eq) ?_
        refine ev_iadd 337 d_mo_writeItem_337 ?_
        refine ev_iload_8 338 d_mo_writeItem_338 ?_
        refine ev_iadd 340 d_mo_writeItem_340 ?_
        refine ev_aload_0 341 d_mo_writeItem_341 ?_
        refine mo_getr 342 9 13 d_mo_writeItem_342 lk_37 ?_
        refine ev_sipush (256) 345 d_mo_writeItem_345 (by decide) ?_
        refine ev_iload_1 348 d_mo_writeItem_348 ?_
        refine ev_imul 349 d_mo_writeItem_349 ?_
        refine ev_aload_0 350 d_mo_writeItem_350 ?_
        refine mo_getr 351 33 45 d_mo_writeItem_351 lk_114 ?_
        refine ev_iload_3 354 d_mo_writeItem_354 ?_
        refine mo_aldn (j := it) 355 33 45 d_mo_writeItem_355 (by exact hit) ?_
        refine ev_topi (nI pp) (show B 45 it = nI pp from hpp) ?_
        refine ev_iadd 356 d_mo_writeItem_356 ?_
        refine ev_iload_8 357 d_mo_writeItem_357 ?_
        refine ev_iadd 359 d_mo_writeItem_359 ?_
        refine ev_topi (nI (256 * ii + pp + j)) (by rw [n_256, pk_mul, nI_add, nI_add]) ?_
        refine mo_aldn (j := 256 * ii + pp + j) 360 9 13 d_mo_writeItem_360 (by show 256 * ii + pp + j < 1536; omega) ?_
        refine ev_sndi (nI (256 * J + to + j)) (by rw [n_256, pk_mul, nI_add, nI_add]) ?_
        refine mo_astn (j := 256 * J + to + j) 361 9 13 d_mo_writeItem_361 (by show 256 * J + to + j < 1536; omega) ?_
        refine ev_iinc_8 362 d_mo_writeItem_362 ?_
        refine ev_goto 365 315 d_mo_writeItem_365 ?_
        exact ev_eq (ih (j + 1) (by omega) (by omega)) (h1 := by rw [n_i1]) (h3 := congrArg (mo_W mo_ci am kI kZ _) (bx_uu _ 13 _ _))
  have M77 : ∀ (o7 o8 : Option Value), EV (mo_π l D cl_A kI kZ tl Z) m_writeItem (ev_E (mo_π l D cl_A kI kZ tl Z) 0 0 (mo_qv am kI kZ (fun F1 B1 => F1 = (wi_1 F B ii J it uu to).1 ∧ B1 = (wi_1 F B ii J it uu to).2))) 0 0 77 [some (.ref (am 60)), some (.int (nI ii)), some (.int (nI J)), some (.int (nI it)), some (.int (nI uu)), some (.int (B 2 uu)), some (.int (B 46 it)), o7, o8] [] (mo_W mo_ci am kI kZ F (wi_t B it to)) := by
    intro o7 o8
    refine ev_iload_5 77 d_mo_writeItem_77 ?_
    refine ev_bipush (6) 79 d_mo_writeItem_79 (by decide) ?_
    refine ev_icmpeq 81 91 d_mo_writeItem_81 (fun c81 => ?_) (fun c81 => ?_)
    · obtain ⟨hm, hmn, hto4⟩ := hk68 (Or.inl c81)
      refine ev_aload_0 91 d_mo_writeItem_91 ?_
      refine mo_getr 92 37 49 d_mo_writeItem_92 lk_126 ?_
      refine ev_iload_3 95 d_mo_writeItem_95 ?_
      refine mo_aldn (j := it) 96 37 49 d_mo_writeItem_96 (by exact hit) ?_
      refine ev_topi (nI mn) (show B 49 it = nI mn from hm) ?_
      refine ev_istore_7 97 d_mo_writeItem_97 ?_
      refine ev_aload_0 99 d_mo_writeItem_99 ?_
      refine mo_getr 100 39 51 d_mo_writeItem_100 lk_132 ?_
      refine ev_iload_3 103 d_mo_writeItem_103 ?_
      refine ev_iload_5 104 d_mo_writeItem_104 ?_
      refine ev_bipush (6) 106 d_mo_writeItem_106 (by decide) ?_
      refine ev_icmpne 108 122 d_mo_writeItem_108 (fun c108 => ?_) (fun c108 => ?_)
      · exact absurd c81 c108
      · refine ev_aload_0 111 d_mo_writeItem_111 ?_
        refine ev_iload_2 112 d_mo_writeItem_112 ?_
        refine ev_iload_7 113 d_mo_writeItem_113 ?_
        refine ev_iconst_1 115 d_mo_writeItem_115 ?_
        refine mo_calli3 116 d_mo_writeItem_116 hZ kc_266 (mt_room (B := (wi_t B it to)) hZ J mn 1 hJ (by omega) (by omega) (by omega) hp hhp hp2 (by rw [mo_ut1]; omega)) (fun y F1 B1 h9 => ?_)
        refine ev_goto 119 160 d_mo_writeItem_119 ?_
        refine mo_astn (j := it) 160 39 51 d_mo_writeItem_160 (by exact hit) ?_
        refine ev_aload_0 161 d_mo_writeItem_161 ?_
        refine mo_geti 162 54 d_mo_writeItem_162 lk_224 ?_
        refine ev_ifle 165 169 d_mo_writeItem_165 (fun c165 => ?_) (fun c165 => ?_)
        · obtain ⟨hq, ey, e1, e2⟩ : mo_ut hp 1 + mn ≤ 256 ∧ y = nI (mo_ut hp 1) ∧ F1 = F ∧ B1 = va_up (va_up (wi_t B it to) 13 (mo_zf (B 13) (256 * J + mo_ut hp 1) mn)) 14 (upd (B 14) J (nI (mo_ut hp 1 + mn))) := by
            rcases h9 with ⟨-, -, e, -⟩ | h9
            · rw [e] at c165; exact absurd (show mo_fl F 11 _ 54 ≤ 0 from c165) (by rw [mo_fl1 h0]; decide)
            · exact h9
          subst F1
          subst B1
          subst ey
          refine ev_aload_0 169 d_mo_writeItem_169 ?_
          refine ev_iload_2 170 d_mo_writeItem_170 ?_
          refine ev_aload_0 171 d_mo_writeItem_171 ?_
          refine mo_getr 172 38 50 d_mo_writeItem_172 lk_129 ?_
          refine ev_iload_3 175 d_mo_writeItem_175 ?_
          refine mo_aldn (j := it) 176 38 50 d_mo_writeItem_176 (by exact hit) ?_
          refine ev_topi (nI to) (show upd (B 50) it (nI to) it = nI to from upd_eq) ?_
          refine ev_iconst_2 177 d_mo_writeItem_177 ?_
          refine ev_aload_0 178 d_mo_writeItem_178 ?_
          refine mo_getr 179 39 51 d_mo_writeItem_179 lk_132 ?_
          refine ev_iload_3 182 d_mo_writeItem_182 ?_
          refine mo_aldn (j := it) 183 39 51 d_mo_writeItem_183 (by exact hit) ?_
          refine ev_topi (nI (mo_ut hp 1)) (show upd (B 51) it (nI (mo_ut hp 1)) it = nI (mo_ut hp 1) from upd_eq) ?_
          refine mo_callv4 184 d_mo_writeItem_184 hZ kc_263 (mt_put hZ J (to) 2 (nI (mo_ut hp 1)) hJ (by omega)) (fun F9 B9 h9 => ?_)
          obtain ⟨e1, e2⟩ := h9
          subst F9
          subst B9
          refine ev_aload_0 187 d_mo_writeItem_187 ?_
          refine ev_iload_2 188 d_mo_writeItem_188 ?_
          refine ev_aload_0 189 d_mo_writeItem_189 ?_
          refine mo_getr 190 38 50 d_mo_writeItem_190 lk_129 ?_
          refine ev_iload_3 193 d_mo_writeItem_193 ?_
          refine mo_aldn (j := it) 194 38 50 d_mo_writeItem_194 (by exact hit) ?_
          refine ev_topi (nI to) (show upd (B 50) it (nI to) it = nI to from upd_eq) ?_
          refine ev_iconst_2 195 d_mo_writeItem_195 ?_
          refine ev_iadd 196 d_mo_writeItem_196 ?_
          refine ev_topi (nI (to + 2)) (show nI to + 2 = nI (to + 2) from nI_add to 2) ?_
          refine ev_iconst_2 197 d_mo_writeItem_197 ?_
          refine ev_iload_7 198 d_mo_writeItem_198 ?_
          refine mo_callv4 200 d_mo_writeItem_200 hZ kc_263 (mt_put hZ J (to + 2) 2 (nI (mn)) hJ (by omega)) (fun F9 B9 h9 => ?_)
          obtain ⟨e1, e2⟩ := h9
          subst F9
          subst B9
          refine ev_iconst_0 203 d_mo_writeItem_203 ?_
          refine ev_istore_8 204 d_mo_writeItem_204 ?_
          obtain ⟨fr, hfr, hfr2⟩ := h6 c81
          refine ev_eq (L206 c81 fr hfr hfr2 (by omega) (mn + 1) 0 (by omega) (by omega)) (h3 := ?_)
          refine congrArg (mo_W mo_ci am kI kZ _) ?_
          rw [bx_uu] <;> rfl
        · refine ev_vret 168 d_mo_writeItem_168 rfl ?_
          obtain ⟨hq, ey, e1, e2⟩ : 256 < mo_ut hp 1 + mn ∧ y = 0 ∧ F1 = mo_fl F 11 (nI (mo_ut hp 1)) ∧ B1 = (wi_t B it to) := by
            rcases h9 with h9 | ⟨-, -, e, -⟩
            · exact h9
            · rw [e] at c165; exact absurd (show F 54 ≤ 0 by rw [h0]; decide) c165
          subst F1
          subst B1
          subst ey
          exact ⟨_, _, rfl, rfl, by rw [wi_1, if_pos c81, hhp, hm, nI_clamp (show hp < 2 ^ 31 by omega), nI_clamp (show mn < 2 ^ 31 by omega), wi_l, if_pos hq] <;> rfl, by rw [wi_1, if_pos c81, hhp, hm, nI_clamp (show hp < 2 ^ 31 by omega), nI_clamp (show mn < 2 ^ 31 by omega), wi_l, if_pos hq] <;> rfl⟩
    · refine ev_iload_5 84 d_mo_writeItem_84 ?_
      refine ev_bipush (8) 86 d_mo_writeItem_86 (by decide) ?_
      refine ev_icmpne 88 269 d_mo_writeItem_88 (fun c88 => ?_) (fun c88 => ?_)
      · refine ev_iload_5 269 d_mo_writeItem_269 ?_
        refine ev_bipush (10) 271 d_mo_writeItem_271 (by decide) ?_
        refine ev_icmple 273 285 d_mo_writeItem_273 (fun c273 => ?_) (fun c273 => ?_)
        · refine ev_iload_5 285 d_mo_writeItem_285 ?_
          refine ev_bipush (9) 287 d_mo_writeItem_287 (by decide) ?_
          refine ev_icmpeq 289 368 d_mo_writeItem_289 (fun c289 => ?_) (fun c289 => ?_)
          · refine ev_vret 368 d_mo_writeItem_368 rfl ?_
            exact ⟨_, _, rfl, rfl, by rw [wi_1, if_neg c81, if_neg c88, if_neg (fun z => z c273), if_pos c289], by rw [wi_1, if_neg c81, if_neg c88, if_neg (fun z => z c273), if_pos c289]⟩
          · refine ev_iload_5 292 d_mo_writeItem_292 ?_
            refine ev_bipush (10) 294 d_mo_writeItem_294 (by decide) ?_
            refine ev_icmpne 296 303 d_mo_writeItem_296 (fun c296 => ?_) (fun c296 => ?_)
            · refine ev_aload_0 303 d_mo_writeItem_303 ?_
              refine mo_getr 304 2 4 d_mo_writeItem_304 lk_16 ?_
              refine ev_iload_4 307 d_mo_writeItem_307 ?_
              refine mo_aldn (j := uu) 309 2 4 d_mo_writeItem_309 (by show uu < 32; omega) ?_
              refine ev_istore_7 310 d_mo_writeItem_310 ?_
              refine ev_iconst_0 312 d_mo_writeItem_312 ?_
              refine ev_istore_8 313 d_mo_writeItem_313 ?_
              obtain ⟨pp, sz, hpp, hsz, g1, g2⟩ := hpl c81 c88 c273 c289
              rw [if_neg c296] at g1 g2
              exact ev_eq (L315 sz pp c81 c88 c273 c289 (by rw [if_neg c296, hsz, nI_clamp (show sz < 2 ^ 31 by omega)]) hpp g1 g2 (sz + 1) 0 (by omega) (by omega)) (h1 := by rw [show wi_t B it to 4 uu = nI sz from hsz] <;> rfl) (h3 := congrArg (mo_W mo_ci am kI kZ _) (mo_upid _ 13).symm)
            · refine ev_iconst_1 299 d_mo_writeItem_299 ?_
              refine ev_goto 300 310 d_mo_writeItem_300 ?_
              refine ev_istore_7 310 d_mo_writeItem_310 ?_
              refine ev_iconst_0 312 d_mo_writeItem_312 ?_
              refine ev_istore_8 313 d_mo_writeItem_313 ?_
              obtain ⟨pp, sz, hpp, hsz, g1, g2⟩ := hpl c81 c88 c273 c289
              rw [if_pos c296] at g1 g2
              exact ev_eq (L315 1 pp c81 c88 c273 c289 (if_pos c296) hpp g1 g2 2 0 (by omega) (by omega)) (h3 := congrArg (mo_W mo_ci am kI kZ _) (mo_upid _ 13).symm)
        · refine ev_aload_0 276 d_mo_writeItem_276 ?_
          refine ev_iload_2 277 d_mo_writeItem_277 ?_
          refine ev_iload_3 278 d_mo_writeItem_278 ?_
          obtain ⟨g1, g2, g3⟩ := hha c273
          refine mo_callv2 279 d_mo_writeItem_279 hZ kc_269 (mt_writeHandle (B := (wi_t B it to)) hZ J it hJ hit (by show vp_in (B 44 it) 32; rw [hU]; exact vp_in_nI (by omega) (by decide)) g1 to upd_eq g2 g3) (fun F9 B9 h9 => ?_)
          obtain ⟨e1, e2⟩ := h9
          subst F9
          subst B9
          refine ev_goto 282 368 d_mo_writeItem_282 ?_
          refine ev_vret 368 d_mo_writeItem_368 rfl ?_
          exact ⟨_, _, rfl, rfl, by rw [wi_1, if_neg c81, if_neg c88, if_pos c273], by rw [wi_1, if_neg c81, if_neg c88, if_pos c273]⟩
      · obtain ⟨hm, hmn, hto4⟩ := hk68 (Or.inr c88)
        obtain ⟨pu, szp, alp, hpu, hpu2, hspu, hszp, hapu, ha1, ha8⟩ := h8l c88
        refine ev_aload_0 91 d_mo_writeItem_91 ?_
        refine mo_getr 92 37 49 d_mo_writeItem_92 lk_126 ?_
        refine ev_iload_3 95 d_mo_writeItem_95 ?_
        refine mo_aldn (j := it) 96 37 49 d_mo_writeItem_96 (by exact hit) ?_
        refine ev_topi (nI mn) (show B 49 it = nI mn from hm) ?_
        refine ev_istore_7 97 d_mo_writeItem_97 ?_
        refine ev_aload_0 99 d_mo_writeItem_99 ?_
        refine mo_getr 100 39 51 d_mo_writeItem_100 lk_132 ?_
        refine ev_iload_3 103 d_mo_writeItem_103 ?_
        refine ev_iload_5 104 d_mo_writeItem_104 ?_
        refine ev_bipush (6) 106 d_mo_writeItem_106 (by decide) ?_
        refine ev_icmpne 108 122 d_mo_writeItem_108 (fun c108 => ?_) (fun c108 => ?_)
        · refine ev_aload_0 122 d_mo_writeItem_122 ?_
          refine ev_iload_2 123 d_mo_writeItem_123 ?_
          refine ev_iload_7 124 d_mo_writeItem_124 ?_
          refine ev_aload_0 126 d_mo_writeItem_126 ?_
          refine mo_getr 127 2 4 d_mo_writeItem_127 lk_16 ?_
          refine ev_aload_0 130 d_mo_writeItem_130 ?_
          refine mo_getr 131 6 8 d_mo_writeItem_131 lk_28 ?_
          refine ev_bipush (6) 134 d_mo_writeItem_134 (by decide) ?_
          refine ev_iload_4 136 d_mo_writeItem_136 ?_
          refine ev_imul 138 d_mo_writeItem_138 ?_
          refine ev_topi (nI (6 * uu)) (by rw [n_6, pk_mul]) ?_
          refine mo_aldn (j := 6 * uu) 139 6 8 d_mo_writeItem_139 (by show 6 * uu < 192; omega) ?_
          refine ev_topi (nI pu) (show B 8 (6 * uu) = nI pu from hpu) ?_
          refine mo_aldn (j := pu) 140 2 4 d_mo_writeItem_140 (by show pu < 32; omega) ?_
          refine ev_topi (nI szp) (show B 4 pu = nI szp from hspu) ?_
          refine ev_imul 141 d_mo_writeItem_141 ?_
          refine ev_aload_0 142 d_mo_writeItem_142 ?_
          refine mo_getr 143 3 5 d_mo_writeItem_143 lk_19 ?_
          refine ev_aload_0 146 d_mo_writeItem_146 ?_
          refine mo_getr 147 6 8 d_mo_writeItem_147 lk_28 ?_
          refine ev_bipush (6) 150 d_mo_writeItem_150 (by decide) ?_
          refine ev_iload_4 152 d_mo_writeItem_152 ?_
          refine ev_imul 154 d_mo_writeItem_154 ?_
          refine ev_topi (nI (6 * uu)) (by rw [n_6, pk_mul]) ?_
          refine mo_aldn (j := 6 * uu) 155 6 8 d_mo_writeItem_155 (by show 6 * uu < 192; omega) ?_
          refine ev_topi (nI pu) (show B 8 (6 * uu) = nI pu from hpu) ?_
          refine mo_aldn (j := pu) 156 3 5 d_mo_writeItem_156 (by show pu < 32; omega) ?_
          refine ev_topi (nI alp) (show B 5 pu = nI alp from hapu) ?_
          refine ev_sndi (nI (mn * szp)) (by rw [pk_mul]) ?_
          refine mo_calli3 157 d_mo_writeItem_157 hZ kc_266 (mt_room (B := (wi_t B it to)) hZ J (mn * szp) alp hJ (by have : mn * szp ≤ 65535 * 96 := Nat.mul_le_mul hmn hszp; omega) (by omega) (by omega) hp hhp hp2 (by have := mo_ut_le hp alp (by omega); omega)) (fun y F1 B1 h9 => ?_)
          refine mo_astn (j := it) 160 39 51 d_mo_writeItem_160 (by exact hit) ?_
          refine ev_aload_0 161 d_mo_writeItem_161 ?_
          refine mo_geti 162 54 d_mo_writeItem_162 lk_224 ?_
          refine ev_ifle 165 169 d_mo_writeItem_165 (fun c165 => ?_) (fun c165 => ?_)
          · obtain ⟨hq, ey, e1, e2⟩ : mo_ut hp alp + (mn * szp) ≤ 256 ∧ y = nI (mo_ut hp alp) ∧ F1 = F ∧ B1 = va_up (va_up (wi_t B it to) 13 (mo_zf (B 13) (256 * J + mo_ut hp alp) (mn * szp))) 14 (upd (B 14) J (nI (mo_ut hp alp + (mn * szp)))) := by
              rcases h9 with ⟨-, -, e, -⟩ | h9
              · rw [e] at c165; exact absurd (show mo_fl F 11 _ 54 ≤ 0 from c165) (by rw [mo_fl1 h0]; decide)
              · exact h9
            subst F1
            subst B1
            subst ey
            refine ev_aload_0 169 d_mo_writeItem_169 ?_
            refine ev_iload_2 170 d_mo_writeItem_170 ?_
            refine ev_aload_0 171 d_mo_writeItem_171 ?_
            refine mo_getr 172 38 50 d_mo_writeItem_172 lk_129 ?_
            refine ev_iload_3 175 d_mo_writeItem_175 ?_
            refine mo_aldn (j := it) 176 38 50 d_mo_writeItem_176 (by exact hit) ?_
            refine ev_topi (nI to) (show upd (B 50) it (nI to) it = nI to from upd_eq) ?_
            refine ev_iconst_2 177 d_mo_writeItem_177 ?_
            refine ev_aload_0 178 d_mo_writeItem_178 ?_
            refine mo_getr 179 39 51 d_mo_writeItem_179 lk_132 ?_
            refine ev_iload_3 182 d_mo_writeItem_182 ?_
            refine mo_aldn (j := it) 183 39 51 d_mo_writeItem_183 (by exact hit) ?_
            refine ev_topi (nI (mo_ut hp alp)) (show upd (B 51) it (nI (mo_ut hp alp)) it = nI (mo_ut hp alp) from upd_eq) ?_
            refine mo_callv4 184 d_mo_writeItem_184 hZ kc_263 (mt_put hZ J (to) 2 (nI (mo_ut hp alp)) hJ (by omega)) (fun F9 B9 h9 => ?_)
            obtain ⟨e1, e2⟩ := h9
            subst F9
            subst B9
            refine ev_aload_0 187 d_mo_writeItem_187 ?_
            refine ev_iload_2 188 d_mo_writeItem_188 ?_
            refine ev_aload_0 189 d_mo_writeItem_189 ?_
            refine mo_getr 190 38 50 d_mo_writeItem_190 lk_129 ?_
            refine ev_iload_3 193 d_mo_writeItem_193 ?_
            refine mo_aldn (j := it) 194 38 50 d_mo_writeItem_194 (by exact hit) ?_
            refine ev_topi (nI to) (show upd (B 50) it (nI to) it = nI to from upd_eq) ?_
            refine ev_iconst_2 195 d_mo_writeItem_195 ?_
            refine ev_iadd 196 d_mo_writeItem_196 ?_
            refine ev_topi (nI (to + 2)) (show nI to + 2 = nI (to + 2) from nI_add to 2) ?_
            refine ev_iconst_2 197 d_mo_writeItem_197 ?_
            refine ev_iload_7 198 d_mo_writeItem_198 ?_
            refine mo_callv4 200 d_mo_writeItem_200 hZ kc_263 (mt_put hZ J (to + 2) 2 (nI (mn)) hJ (by omega)) (fun F9 B9 h9 => ?_)
            obtain ⟨e1, e2⟩ := h9
            subst F9
            subst B9
            refine ev_iconst_0 203 d_mo_writeItem_203 ?_
            refine ev_istore_8 204 d_mo_writeItem_204 ?_
            refine ev_iload_8 206 d_mo_writeItem_206 ?_
            refine ev_iload_7 208 d_mo_writeItem_208 ?_
            refine ev_icmpge 210 266 d_mo_writeItem_210 (fun c210 => ?_) (fun c210 => ?_)
            · refine ev_goto 266 368 d_mo_writeItem_266 ?_
              refine ev_vret 368 d_mo_writeItem_368 rfl ?_
              exact ⟨_, _, rfl, rfl, by rw [wi_1, if_neg c81, if_pos c88, hhp, hm, nI_clamp (show hp < 2 ^ 31 by omega), nI_clamp (show mn < 2 ^ 31 by omega), hpu, nI_clamp (show pu < 2 ^ 31 by omega), hspu, hapu, nI_clamp (show szp < 2 ^ 31 by omega), nI_clamp (show alp < 2 ^ 31 by omega), wi_l, if_neg (show ¬ 256 < mo_ut hp alp + mn * szp by omega)] <;> rfl, by rw [wi_1, if_neg c81, if_pos c88, hhp, hm, nI_clamp (show hp < 2 ^ 31 by omega), nI_clamp (show mn < 2 ^ 31 by omega), hpu, nI_clamp (show pu < 2 ^ 31 by omega), hspu, hapu, nI_clamp (show szp < 2 ^ 31 by omega), nI_clamp (show alp < 2 ^ 31 by omega), wi_l, if_neg (show ¬ 256 < mo_ut hp alp + mn * szp by omega), wi_f, if_neg (show ¬ False from fun z => z), bx_uu] <;> rfl⟩
            · refine ev_iload_5 213 d_mo_writeItem_213 ?_
              refine ev_bipush (6) 215 d_mo_writeItem_215 (by decide) ?_
              refine ev_icmpne 217 266 d_mo_writeItem_217 (fun c217 => ?_) (fun c217 => ?_)
              · refine ev_goto 266 368 d_mo_writeItem_266 ?_
                refine ev_vret 368 d_mo_writeItem_368 rfl ?_
                exact ⟨_, _, rfl, rfl, by rw [wi_1, if_neg c81, if_pos c88, hhp, hm, nI_clamp (show hp < 2 ^ 31 by omega), nI_clamp (show mn < 2 ^ 31 by omega), hpu, nI_clamp (show pu < 2 ^ 31 by omega), hspu, hapu, nI_clamp (show szp < 2 ^ 31 by omega), nI_clamp (show alp < 2 ^ 31 by omega), wi_l, if_neg (show ¬ 256 < mo_ut hp alp + mn * szp by omega)] <;> rfl, by rw [wi_1, if_neg c81, if_pos c88, hhp, hm, nI_clamp (show hp < 2 ^ 31 by omega), nI_clamp (show mn < 2 ^ 31 by omega), hpu, nI_clamp (show pu < 2 ^ 31 by omega), hspu, hapu, nI_clamp (show szp < 2 ^ 31 by omega), nI_clamp (show alp < 2 ^ 31 by omega), wi_l, if_neg (show ¬ 256 < mo_ut hp alp + mn * szp by omega), wi_f, if_neg (show ¬ False from fun z => z), bx_uu] <;> rfl⟩
              · exact absurd c217 c81
          · refine ev_vret 168 d_mo_writeItem_168 rfl ?_
            obtain ⟨hq, ey, e1, e2⟩ : 256 < mo_ut hp alp + (mn * szp) ∧ y = 0 ∧ F1 = mo_fl F 11 (nI (mo_ut hp alp)) ∧ B1 = (wi_t B it to) := by
              rcases h9 with h9 | ⟨-, -, e, -⟩
              · exact h9
              · rw [e] at c165; exact absurd (show F 54 ≤ 0 by rw [h0]; decide) c165
            subst F1
            subst B1
            subst ey
            exact ⟨_, _, rfl, rfl, by rw [wi_1, if_neg c81, if_pos c88, hhp, hm, nI_clamp (show hp < 2 ^ 31 by omega), nI_clamp (show mn < 2 ^ 31 by omega), hpu, nI_clamp (show pu < 2 ^ 31 by omega), hspu, hapu, nI_clamp (show szp < 2 ^ 31 by omega), nI_clamp (show alp < 2 ^ 31 by omega), wi_l, if_pos hq] <;> rfl, by rw [wi_1, if_neg c81, if_pos c88, hhp, hm, nI_clamp (show hp < 2 ^ 31 by omega), nI_clamp (show mn < 2 ^ 31 by omega), hpu, nI_clamp (show pu < 2 ^ 31 by omega), hspu, hapu, nI_clamp (show szp < 2 ^ 31 by omega), nI_clamp (show alp < 2 ^ 31 by omega), wi_l, if_pos hq] <;> rfl⟩
        · exact absurd c108 c81
  refine ev_aload_0 0 d_mo_writeItem_0 ?_
  refine mo_getr 1 32 44 d_mo_writeItem_1 lk_111 ?_
  refine ev_iload_3 4 d_mo_writeItem_4 ?_
  refine mo_aldn (j := it) 5 32 44 d_mo_writeItem_5 (by exact hit) ?_
  refine ev_topi (nI uu) hU ?_
  refine ev_istore_4 6 d_mo_writeItem_6 ?_
  refine ev_aload_0 8 d_mo_writeItem_8 ?_
  refine mo_getr 9 0 2 d_mo_writeItem_9 lk_7 ?_
  refine ev_iload_4 12 d_mo_writeItem_12 ?_
  refine mo_aldn (j := uu) 14 0 2 d_mo_writeItem_14 (by show uu < 32; omega) ?_
  refine ev_istore_5 15 d_mo_writeItem_15 ?_
  refine ev_aload_0 17 d_mo_writeItem_17 ?_
  refine mo_getr 18 34 46 d_mo_writeItem_18 lk_117 ?_
  refine ev_iload_3 21 d_mo_writeItem_21 ?_
  refine mo_aldn (j := it) 22 34 46 d_mo_writeItem_22 (by exact hit) ?_
  refine ev_istore_6 23 d_mo_writeItem_23 ?_
  refine ev_iload_6 25 d_mo_writeItem_25 ?_
  refine ev_iflt 27 77 d_mo_writeItem_27 (fun c27 => ?_) (fun c27 => ?_)
  · rw [wi_to, if_pos c27] at hto
    exact ev_eq (M77 none none) (h3 := by rw [wi_t0 hto])
  · obtain ⟨g1, g2⟩ := hab c27
    obtain ⟨ab, hab2, eab⟩ := vp_in_of g1 (by decide)
    rw [eab, nI_clamp (by omega)] at g2
    obtain ⟨ua, hua, eua⟩ := vp_in_of g2 (by decide)
    refine ev_aload_0 30 d_mo_writeItem_30 ?_
    refine mo_getr 31 38 50 d_mo_writeItem_31 lk_129 ?_
    refine ev_iload_3 34 d_mo_writeItem_34 ?_
    refine ev_aload_0 35 d_mo_writeItem_35 ?_
    refine mo_getr 36 0 2 d_mo_writeItem_36 lk_7 ?_
    refine ev_aload_0 39 d_mo_writeItem_39 ?_
    refine mo_getr 40 32 44 d_mo_writeItem_40 lk_111 ?_
    refine ev_iload_6 43 d_mo_writeItem_43 ?_
    refine ev_topi (nI (ab)) (by rw [eab]) ?_
    refine mo_aldn (j := ab) 45 32 44 d_mo_writeItem_45 (by exact hab2) ?_
    refine ev_topi (nI ua) (show B 44 ab = nI ua from eua) ?_
    refine mo_aldn (j := ua) 46 0 2 d_mo_writeItem_46 (by show ua < 32; omega) ?_
    refine ev_bipush (8) 47 d_mo_writeItem_47 (by decide) ?_
    refine ev_icmpne 49 62 d_mo_writeItem_49 (fun c49 => ?_) (fun c49 => ?_)
    · refine ev_aload_0 62 d_mo_writeItem_62 ?_
      refine mo_getr 63 38 50 d_mo_writeItem_63 lk_129 ?_
      refine ev_iload_6 66 d_mo_writeItem_66 ?_
      refine ev_topi (nI (ab)) (by rw [eab]) ?_
      refine mo_aldn (j := ab) 68 38 50 d_mo_writeItem_68 (by exact hab2) ?_
      refine ev_aload_0 69 d_mo_writeItem_69 ?_
      refine mo_getr 70 35 47 d_mo_writeItem_70 lk_120 ?_
      refine ev_iload_3 73 d_mo_writeItem_73 ?_
      refine mo_aldn (j := it) 74 35 47 d_mo_writeItem_74 (by exact hit) ?_
      refine ev_iadd 75 d_mo_writeItem_75 ?_
      refine mo_astn (j := it) 76 38 50 d_mo_writeItem_76 (by exact hit) ?_
      rw [wi_to, if_neg c27, eab, nI_clamp (show ab < 2 ^ 31 by omega), eua, nI_clamp (show ua < 2 ^ 31 by omega), if_neg c49] at hto
      exact ev_eq (M77 none none) (h3 := by rw [wi_t, ← hto] <;> rfl)
    · refine ev_aload_0 52 d_mo_writeItem_52 ?_
      refine mo_getr 53 39 51 d_mo_writeItem_53 lk_132 ?_
      refine ev_iload_6 56 d_mo_writeItem_56 ?_
      refine ev_topi (nI (ab)) (by rw [eab]) ?_
      refine mo_aldn (j := ab) 58 39 51 d_mo_writeItem_58 (by exact hab2) ?_
      refine ev_goto 59 69 d_mo_writeItem_59 ?_
      refine ev_aload_0 69 d_mo_writeItem_69 ?_
      refine mo_getr 70 35 47 d_mo_writeItem_70 lk_120 ?_
      refine ev_iload_3 73 d_mo_writeItem_73 ?_
      refine mo_aldn (j := it) 74 35 47 d_mo_writeItem_74 (by exact hit) ?_
      refine ev_iadd 75 d_mo_writeItem_75 ?_
      refine mo_astn (j := it) 76 38 50 d_mo_writeItem_76 (by exact hit) ?_
      rw [wi_to, if_neg c27, eab, nI_clamp (show ab < 2 ^ 31 by omega), eua, nI_clamp (show ua < 2 ^ 31 by omega), if_pos c49] at hto
      exact ev_eq (M77 none none) (h3 := by rw [wi_t, ← hto] <;> rfl)
