/-- what is lent to the instance ends -/
def bk_u (u ow : Nat → Int32) (b : Nat) : Nat → Nat → Int32
  | 0 => u
  | n + 1 => upd (bk_u u ow b n) (b + (n + 1)) (if ¬ bk_u u ow b n (b + (n + 1)) = 0 ∧ ¬ ow (b + (n + 1)) = 0 then 1 else 0)
theorem bk_s {u ow : Nat → Int32} {b n : Nat} {v : Int32} (h : v = if ¬ bk_u u ow b n (b + (n + 1)) = 0 ∧ ¬ ow (b + (n + 1)) = 0 then 1 else 0) : upd (bk_u u ow b n) (b + (n + 1)) v = bk_u u ow b (n + 1) := by rw [bk_u, h]
/-- back at the instance below -/
def bk_N (Lv i : Nat) (y : Int32) (F2 : Nat → Int32) (B2 : Nat → Nat → Int32) (F1 : Nat → Int32) (B1 : Nat → Nat → Int32) : Prop := F1 = upd F2 29 (nI (Lv - 1)) ∧ B1 = va_up (va_up (va_up (va_up B2 16 (bk_u (B2 16) (B2 18) (17 * i) 16)) 15 (upd (B2 15) i 0)) 14 (upd (B2 14) i 128)) 32 (upd (B2 32) (Lv - 2) y)

set_option maxHeartbeats 4000000 in
set_option maxRecDepth 100000 in
theorem mt_back {l : Launch} {D : va_G} {tl : List (ClassId × FieldType)} {Z : (Nat → Prop) → State → Heap → Prop} {kI kZ : ClassId} {am : Nat → Nat} {F : Nat → Int32} {B : Nat → Nat → Int32} (hZ : ev_Zok Z) (t : Int32) (at_ : Int32) (NT NF Lv : Nat) (ct dp : Nat → Nat) (pt : Nat → Nat → Nat) (sz al hm ar rs ru hp cf : Nat → Nat) (hA : cl_ok F B NT NF Lv ct dp pt sz al hm ar rs ru hp) (hcf : ∀ k, 1 ≤ k → k < Lv → B 31 k = nI (cf k) ∧ cf k < NF) : MT (mo_π l D cl_A kI kZ tl Z) m_back 0 0 [.ref (am 60), .int t, .int at_] (mo_W mo_ci am kI kZ F B) (mo_qi am kI kZ (fun x F1 B1 => (¬ 2 ≤ Lv ∧ x = 0 ∧ F1 = upd F 0 1 ∧ mo_sw 0 B B1) ∨ (2 ≤ Lv ∧ ¬ (¬ t < 0 ∧ ¬ F 1 ≤ t) ∧ x = 0 ∧ F1 = upd F 0 2 ∧ mo_sw 0 B B1) ∨ (∃ tt, tt < NT ∧ t = nI tt ∧ 2 ≤ Lv ∧ ¬ nb_v (nb_r B ct pt 5 tt (rs (cf (Lv - 1))) 0) = 0 ∧ x = 0 ∧ (∃ w, F1 = upd (upd F 36 w) 0 3) ∧ mo_sw 0 B B1) ∨ (∃ tt, tt < NT ∧ t = nI tt ∧ 2 ≤ Lv ∧ nb_v (nb_r B ct pt 5 tt (rs (cf (Lv - 1))) 0) = 0 ∧ ∃ w B', mo_sw 0 B B' ∧ cl_q (upd (upd F 36 w) 0 0) B' ct sz al hp Lv (ru (Lv - 1)) tt (ru (Lv - 2)) (rs (cf (Lv - 1))) at_ (bk_N Lv (ru (Lv - 1))) x F1 B1))) := by
  refine mt_of mo_pl rfl (Nat.le_of_ble_eq_true rfl) (ev_eq (lv' := [some (.ref (am 60)), some (.int t), some (.int at_), none, none, none, none]) ?_)
  obtain ⟨hNT, hNF, hLv, hW, hD, hS, ⟨hNF2, hfn⟩, h8, hG, hhp, hL6, hru⟩ := hA
  have L161 : ∀ (F2 : Nat → Int32) (B2 : Nat → Nat → Int32) (y : Int32), 2 ≤ Lv → F2 29 = F 29 → (∀ F1 B1, bk_N Lv (ru (Lv - 1)) y F2 B2 F1 B1 → (fun x F1 B1 => (¬ 2 ≤ Lv ∧ x = 0 ∧ F1 = upd F 0 1 ∧ mo_sw 0 B B1) ∨ (2 ≤ Lv ∧ ¬ (¬ t < 0 ∧ ¬ F 1 ≤ t) ∧ x = 0 ∧ F1 = upd F 0 2 ∧ mo_sw 0 B B1) ∨ (∃ tt, tt < NT ∧ t = nI tt ∧ 2 ≤ Lv ∧ ¬ nb_v (nb_r B ct pt 5 tt (rs (cf (Lv - 1))) 0) = 0 ∧ x = 0 ∧ (∃ w, F1 = upd (upd F 36 w) 0 3) ∧ mo_sw 0 B B1) ∨ (∃ tt, tt < NT ∧ t = nI tt ∧ 2 ≤ Lv ∧ nb_v (nb_r B ct pt 5 tt (rs (cf (Lv - 1))) 0) = 0 ∧ ∃ w B', mo_sw 0 B B' ∧ cl_q (upd (upd F 36 w) 0 0) B' ct sz al hp Lv (ru (Lv - 1)) tt (ru (Lv - 2)) (rs (cf (Lv - 1))) at_ (bk_N Lv (ru (Lv - 1))) x F1 B1)) 0 F1 B1) → ∀ m n : Nat, 16 - n < m → n ≤ 16 → EV (mo_π l D cl_A kI kZ tl Z) m_back (ev_E (mo_π l D cl_A kI kZ tl Z) 0 0 (mo_qi am kI kZ (fun x F1 B1 => (¬ 2 ≤ Lv ∧ x = 0 ∧ F1 = upd F 0 1 ∧ mo_sw 0 B B1) ∨ (2 ≤ Lv ∧ ¬ (¬ t < 0 ∧ ¬ F 1 ≤ t) ∧ x = 0 ∧ F1 = upd F 0 2 ∧ mo_sw 0 B B1) ∨ (∃ tt, tt < NT ∧ t = nI tt ∧ 2 ≤ Lv ∧ ¬ nb_v (nb_r B ct pt 5 tt (rs (cf (Lv - 1))) 0) = 0 ∧ x = 0 ∧ (∃ w, F1 = upd (upd F 36 w) 0 3) ∧ mo_sw 0 B B1) ∨ (∃ tt, tt < NT ∧ t = nI tt ∧ 2 ≤ Lv ∧ nb_v (nb_r B ct pt 5 tt (rs (cf (Lv - 1))) 0) = 0 ∧ ∃ w B', mo_sw 0 B B' ∧ cl_q (upd (upd F 36 w) 0 0) B' ct sz al hp Lv (ru (Lv - 1)) tt (ru (Lv - 2)) (rs (cf (Lv - 1))) at_ (bk_N Lv (ru (Lv - 1))) x F1 B1)))) 0 0 161 [some (.ref (am 60)), some (.int t), some (.int at_), some (.int (nI (ru (Lv - 1)))), some (.int (nI (ru (Lv - 2)))), some (.int y), some (.int (nI (n + 1)))] [] (mo_W mo_ci am kI kZ F2 (va_up B2 16 (bk_u (B2 16) (B2 18) (17 * (ru (Lv - 1))) n))) := by
    intro F2 B2 y hl2 h29 hP m
    have hI := (hru (Lv - 1) (by omega)).2
    have hl1 : F2 29 - 1 = nI (Lv - 1) := by rw [h29, hLv, n_s1 (by omega)]
    induction m with
    | zero => intro n h; omega
    | succ m ih =>
      intro n hm hn
      refine ev_iload_6 161 d_mo_back_161 ?_
      refine ev_bipush (16) 163 d_mo_back_163 (by decide) ?_
      refine ev_icmpgt 165 221 d_mo_back_165 (fun c165 => ?_) (fun c165 => ?_)
      · have h165 := n_lt 16 (n + 1) c165
        obtain rfl : n = 16 := by omega
        refine ev_aload_0 221 d_mo_back_221 ?_
        refine mo_getr 222 11 15 d_mo_back_222 lk_43 ?_
        refine ev_iload_3 225 d_mo_back_225 ?_
        refine ev_iconst_0 226 d_mo_back_226 ?_
        refine mo_astn (j := ru (Lv - 1)) 227 11 15 d_mo_back_227 (by show ru (Lv - 1) < 6; exact hI) ?_
        refine ev_aload_0 228 d_mo_back_228 ?_
        refine mo_getr 229 10 14 d_mo_back_229 lk_40 ?_
        refine ev_iload_3 232 d_mo_back_232 ?_
        refine ev_sipush (128) 233 d_mo_back_233 (by decide) ?_
        refine mo_astn (j := ru (Lv - 1)) 236 10 14 d_mo_back_236 (by show ru (Lv - 1) < 6; exact hI) ?_
        refine ev_aload_0 237 d_mo_back_237 ?_
        refine ev_dup_a 238 d_mo_back_238 ?_
        refine mo_geti 239 29 d_mo_back_239 lk_208 ?_
        refine ev_iconst_1 242 d_mo_back_242 ?_
        refine ev_isub 243 d_mo_back_243 ?_
        refine ev_topi (nI (Lv - 1)) hl1 ?_
        refine mo_puti 244 29 d_mo_back_244 lp_208 ?_
        refine ev_aload_0 247 d_mo_back_247 ?_
        refine mo_getr 248 25 32 d_mo_back_248 lk_86 ?_
        refine ev_aload_0 251 d_mo_back_251 ?_
        refine mo_geti 252 29 d_mo_back_252 lk_208 ?_
        refine ev_iconst_1 255 d_mo_back_255 ?_
        refine ev_isub 256 d_mo_back_256 ?_
        refine ev_iload_5 257 d_mo_back_257 ?_
        refine ev_sndi (nI (Lv - 2)) (by show nI (Lv - 1) - 1 = nI (Lv - 2); rw [n_s1 (by omega), show Lv - 1 - 1 = Lv - 2 by omega]) ?_
        refine mo_astn (j := Lv - 2) 259 25 32 d_mo_back_259 (by show Lv - 2 < 6; omega) ?_
        refine ev_iconst_0 260 d_mo_back_260 ?_
        refine ev_iret 261 d_mo_back_261 rfl ?_
        exact ⟨_, _, _, rfl, rfl, hP _ _ ⟨rfl, rfl⟩⟩
      · have h165 := n_nlt 16 (n + 1) c165
        refine ev_aload_0 168 d_mo_back_168 ?_
        refine mo_getr 169 12 16 d_mo_back_169 lk_46 ?_
        refine ev_bipush (17) 172 d_mo_back_172 (by decide) ?_
        refine ev_iload_3 174 d_mo_back_174 ?_
        refine ev_imul 175 d_mo_back_175 ?_
        refine ev_iload_6 176 d_mo_back_176 ?_
        refine ev_iadd 178 d_mo_back_178 ?_
        refine ev_aload_0 179 d_mo_back_179 ?_
        refine mo_getr 180 12 16 d_mo_back_180 lk_46 ?_
        refine ev_bipush (17) 183 d_mo_back_183 (by decide) ?_
        refine ev_iload_3 185 d_mo_back_185 ?_
        refine ev_imul 186 d_mo_back_186 ?_
        refine ev_iload_6 187 d_mo_back_187 ?_
        refine ev_iadd 189 d_mo_back_189 ?_
        refine ev_topi (nI (17 * (ru (Lv - 1)) + (n + 1))) (by rw [n_17, pk_mul, nI_add]) ?_
        refine mo_zldn (j := 17 * (ru (Lv - 1)) + (n + 1)) 190 12 16 d_mo_back_190 (by show 17 * (ru (Lv - 1)) + (n + 1) < 102; omega) ?_
        refine ev_ifeq 191 213 d_mo_back_191 (fun c191 => ?_) (fun c191 => ?_)
        · replace c191 : bk_u (B2 16) (B2 18) (17 * (ru (Lv - 1))) n (17 * (ru (Lv - 1)) + (n + 1)) = 0 := c191
          refine ev_iconst_0 213 d_mo_back_213 ?_
          refine ev_sndi (nI (17 * (ru (Lv - 1)) + (n + 1))) (by rw [n_17, pk_mul, nI_add]) ?_
          refine mo_zstn (j := 17 * (ru (Lv - 1)) + (n + 1)) 214 12 16 d_mo_back_214 (by show 17 * (ru (Lv - 1)) + (n + 1) < 102; omega) (by first | exact Or.inl rfl | exact Or.inr rfl) ?_
          refine ev_iinc_6 215 d_mo_back_215 ?_
          refine ev_goto 218 161 d_mo_back_218 ?_
          refine ev_eq (ih (n + 1) (by omega) (by omega)) (h1 := by rw [n_i1]) (h3 := congrArg (mo_W mo_ci am kI kZ _) ?_)
          rw [bx_uu]
          exact congrArg (va_up B2 16) (bk_s (u := B2 16) (ow := B2 18) (b := 17 * (ru (Lv - 1))) (n := n) (if_neg (fun z => z.1 c191)).symm)
        · replace c191 : ¬ bk_u (B2 16) (B2 18) (17 * (ru (Lv - 1))) n (17 * (ru (Lv - 1)) + (n + 1)) = 0 := c191
          refine ev_aload_0 194 d_mo_back_194 ?_
          refine mo_getr 195 14 18 d_mo_back_195 lk_53 ?_
          refine ev_bipush (17) 198 d_mo_back_198 (by decide) ?_
          refine ev_iload_3 200 d_mo_back_200 ?_
          refine ev_imul 201 d_mo_back_201 ?_
          refine ev_iload_6 202 d_mo_back_202 ?_
          refine ev_iadd 204 d_mo_back_204 ?_
          refine ev_topi (nI (17 * (ru (Lv - 1)) + (n + 1))) (by rw [n_17, pk_mul, nI_add]) ?_
          refine mo_zldn (j := 17 * (ru (Lv - 1)) + (n + 1)) 205 14 18 d_mo_back_205 (by show 17 * (ru (Lv - 1)) + (n + 1) < 102; omega) ?_
          refine ev_ifeq 206 213 d_mo_back_206 (fun c206 => ?_) (fun c206 => ?_)
          · replace c206 : B2 18 (17 * (ru (Lv - 1)) + (n + 1)) = 0 := c206
            refine ev_iconst_0 213 d_mo_back_213 ?_
            refine ev_sndi (nI (17 * (ru (Lv - 1)) + (n + 1))) (by rw [n_17, pk_mul, nI_add]) ?_
            refine mo_zstn (j := 17 * (ru (Lv - 1)) + (n + 1)) 214 12 16 d_mo_back_214 (by show 17 * (ru (Lv - 1)) + (n + 1) < 102; omega) (by first | exact Or.inl rfl | exact Or.inr rfl) ?_
            refine ev_iinc_6 215 d_mo_back_215 ?_
            refine ev_goto 218 161 d_mo_back_218 ?_
            refine ev_eq (ih (n + 1) (by omega) (by omega)) (h1 := by rw [n_i1]) (h3 := congrArg (mo_W mo_ci am kI kZ _) ?_)
            rw [bx_uu]
            exact congrArg (va_up B2 16) (bk_s (u := B2 16) (ow := B2 18) (b := 17 * (ru (Lv - 1))) (n := n) (if_neg (fun z => z.2 c206)).symm)
          · replace c206 : ¬ B2 18 (17 * (ru (Lv - 1)) + (n + 1)) = 0 := c206
            refine ev_iconst_1 209 d_mo_back_209 ?_
            refine ev_goto 210 214 d_mo_back_210 ?_
            refine ev_sndi (nI (17 * (ru (Lv - 1)) + (n + 1))) (by rw [n_17, pk_mul, nI_add]) ?_
            refine mo_zstn (j := 17 * (ru (Lv - 1)) + (n + 1)) 214 12 16 d_mo_back_214 (by show 17 * (ru (Lv - 1)) + (n + 1) < 102; omega) (by first | exact Or.inl rfl | exact Or.inr rfl) ?_
            refine ev_iinc_6 215 d_mo_back_215 ?_
            refine ev_goto 218 161 d_mo_back_218 ?_
            refine ev_eq (ih (n + 1) (by omega) (by omega)) (h1 := by rw [n_i1]) (h3 := congrArg (mo_W mo_ci am kI kZ _) ?_)
            rw [bx_uu]
            exact congrArg (va_up B2 16) (bk_s (u := B2 16) (ow := B2 18) (b := 17 * (ru (Lv - 1))) (n := n) (if_pos ⟨c191, c206⟩).symm)
  refine ev_aload_0 0 d_mo_back_0 ?_
  refine ev_aload_0 1 d_mo_back_1 ?_
  refine mo_geti 2 29 d_mo_back_2 lk_208 ?_
  refine ev_iconst_2 5 d_mo_back_5 ?_
  refine ev_icmpge 6 13 d_mo_back_6 (fun c6 => ?_) (fun c6 => ?_)
  · have hl2 : 2 ≤ Lv := n_le 2 Lv c6 rfl hLv
    refine ev_aload_0 13 d_mo_back_13 ?_
    refine ev_iload_1 14 d_mo_back_14 ?_
    refine mo_calli1 15 d_mo_back_15 hZ kc_150 (mt_isType hZ _) (fun y F1 B1 h => ?_)
    obtain ⟨hy, e1, e2⟩ := h
    subst F1
    subst B1
    refine ev_ifne 18 25 d_mo_back_18 (fun c18 => ?_) (fun c18 => ?_)
    · obtain ⟨tt, htt, rfl⟩ := n_typ hNT hW.1 (mo_b1 hy c18)
      obtain ⟨hc1, hc2⟩ := hcf (Lv - 1) (by omega) (by omega)
      have hrs := (hfn _ hc2).2.2.2.2.2
      have hl1 : F 29 - 1 = nI (Lv - 1) := by rw [hLv, n_s1 (by omega)]
      have hl9 : F 29 - 2 = nI (Lv - 2) := by rw [hLv]; exact pk_sub (a := Lv) (b := 2) hl2
      refine ev_aload_0 25 d_mo_back_25 ?_
      refine ev_iload_1 26 d_mo_back_26 ?_
      refine ev_aload_0 27 d_mo_back_27 ?_
      refine mo_getr 28 22 28 d_mo_back_28 lk_77 ?_
      refine ev_aload_0 31 d_mo_back_31 ?_
      refine mo_getr 32 24 31 d_mo_back_32 lk_83 ?_
      refine ev_aload_0 35 d_mo_back_35 ?_
      refine mo_geti 36 29 d_mo_back_36 lk_208 ?_
      refine ev_iconst_1 39 d_mo_back_39 ?_
      refine ev_isub 40 d_mo_back_40 ?_
      refine ev_topi (nI (Lv - 1)) (by exact hl1) ?_
      refine mo_aldn (j := Lv - 1) 41 24 31 d_mo_back_41 (by show Lv - 1 < 6; omega) ?_
      refine ev_topi (nI (cf (Lv - 1))) (show B 31 (Lv - 1) = nI (cf (Lv - 1)) from hc1) ?_
      refine mo_aldn (j := cf (Lv - 1)) 42 22 28 d_mo_back_42 (by show cf (Lv - 1) < 12; omega) ?_
      refine ev_topi (nI (rs (cf (Lv - 1)))) (show B 28 (cf (Lv - 1)) = nI (rs (cf (Lv - 1))) from (hfn _ hc2).2.2.2.2.1) ?_
      refine mo_calli2 43 d_mo_back_43 hZ kc_194 (mt_misfit hZ tt (rs (cf (Lv - 1))) NT ct dp pt hW htt hrs) (fun y9 F9 B9 h9 => ?_)
      obtain ⟨hm9, ⟨w, e9⟩, hs⟩ := h9
      subst F9
      have e31 : B9 31 = B 31 := hs.1 31 (by omega)
      have e28 : B9 28 = B 28 := hs.1 28 (by omega)
      have e30 : B9 30 = B 30 := hs.1 30 (by omega)
      refine ev_ifle 46 53 d_mo_back_46 (fun c46 => ?_) (fun c46 => ?_)
      · have hnb : nb_v (nb_r B ct pt 5 tt (rs (cf (Lv - 1))) 0) = 0 := by
          rw [hm9] at c46
          exact nb_z c46 (by have h1 := nb_bd hW 5 tt (rs (cf (Lv - 1))) 0 htt hrs; have h2 := nb_vw (nb_r B ct pt 5 tt (rs (cf (Lv - 1))) 0); omega)
        refine ev_iconst_0 53 d_mo_back_53 ?_
        refine mo_calli1 54 d_mo_back_54 hZ kc_157 (mt_refuses hZ _) (fun x F8 B8 h => ?_)
        obtain ⟨hx, e1, e2⟩ := h
        subst F8
        subst B8
        refine ev_ifeq 57 62 d_mo_back_57 (fun c57 => ?_) (fun c57 => ?_)
        · refine ev_aload_0 62 d_mo_back_62 ?_
          refine mo_getr 63 23 30 d_mo_back_63 lk_80 ?_
          refine ev_aload_0 66 d_mo_back_66 ?_
          refine mo_geti 67 29 d_mo_back_67 lk_208 ?_
          refine ev_iconst_1 70 d_mo_back_70 ?_
          refine ev_isub 71 d_mo_back_71 ?_
          refine ev_topi (nI (Lv - 1)) (by exact hl1) ?_
          refine mo_aldn (j := Lv - 1) 72 23 30 d_mo_back_72 (by show Lv - 1 < 6; omega) ?_
          refine ev_topi (nI (ru (Lv - 1))) (show B9 30 (Lv - 1) = nI (ru (Lv - 1)) by rw [e30]; exact (hru (Lv - 1) (by omega)).1) ?_
          refine ev_istore_3 73 d_mo_back_73 ?_
          refine ev_aload_0 74 d_mo_back_74 ?_
          refine mo_getr 75 23 30 d_mo_back_75 lk_80 ?_
          refine ev_aload_0 78 d_mo_back_78 ?_
          refine mo_geti 79 29 d_mo_back_79 lk_208 ?_
          refine ev_iconst_2 82 d_mo_back_82 ?_
          refine ev_isub 83 d_mo_back_83 ?_
          refine ev_topi (nI (Lv - 2)) (by exact hl9) ?_
          refine mo_aldn (j := Lv - 2) 84 23 30 d_mo_back_84 (by show Lv - 2 < 6; omega) ?_
          refine ev_topi (nI (ru (Lv - 2))) (show B9 30 (Lv - 2) = nI (ru (Lv - 2)) by rw [e30]; exact (hru (Lv - 2) (by omega)).1) ?_
          refine ev_istore_4 85 d_mo_back_85 ?_
          refine ev_aload_0 87 d_mo_back_87 ?_
          refine ev_iload_3 88 d_mo_back_88 ?_
          refine ev_iload_1 89 d_mo_back_89 ?_
          refine ev_iload_2 90 d_mo_back_90 ?_
          refine ev_iload_4 91 d_mo_back_91 ?_
          refine ev_aload_0 93 d_mo_back_93 ?_
          refine mo_getr 94 22 28 d_mo_back_94 lk_77 ?_
          refine ev_aload_0 97 d_mo_back_97 ?_
          refine mo_getr 98 24 31 d_mo_back_98 lk_83 ?_
          refine ev_aload_0 101 d_mo_back_101 ?_
          refine mo_geti 102 29 d_mo_back_102 lk_208 ?_
          refine ev_iconst_1 105 d_mo_back_105 ?_
          refine ev_isub 106 d_mo_back_106 ?_
          refine ev_topi (nI (Lv - 1)) (by exact hl1) ?_
          refine mo_aldn (j := Lv - 1) 107 24 31 d_mo_back_107 (by show Lv - 1 < 6; omega) ?_
          refine ev_topi (nI (cf (Lv - 1))) (show B9 31 (Lv - 1) = nI (cf (Lv - 1)) by rw [e31]; exact hc1) ?_
          refine mo_aldn (j := cf (Lv - 1)) 108 22 28 d_mo_back_108 (by show cf (Lv - 1) < 12; omega) ?_
          refine ev_topi (nI (rs (cf (Lv - 1)))) (show B9 28 (cf (Lv - 1)) = nI (rs (cf (Lv - 1))) by rw [e28]; exact (hfn _ hc2).2.2.2.2.1) ?_
          obtain ⟨tW, tD, tS, tR, t8⟩ := ty_all hs hW hD hS (ft_ok hW) h8
          have hJ := (hru (Lv - 2) (by omega)).2
          have hI := (hru (Lv - 1) (by omega)).2
          refine mo_calli5 109 d_mo_back_109 hZ kc_287 (mt_pass (F := upd (upd F 36 w) 0 0) (B := B9) hZ (ru (Lv - 1)) tt at_ (ru (Lv - 2)) (rs (cf (Lv - 1))) hI hJ NT ct dp pt sz al (ft_R B NT ct dp pt) tW tD tR tS htt hrs (ft_of hW htt hrs hnb) t8 (by rw [hs.1 16 (by omega), hs.1 17 (by omega)]; exact hG) (hp (ru (Lv - 2))) (by rw [hs.1 14 (by omega)]; exact (hhp _ hJ).1) (hhp _ hJ).2) (fun y F2 B2 hps => ?_)
          obtain ⟨k1, k2, Fr, hFr, hFr2, hfo⟩ := ps_kp (fun q hq => (rd_it0 tW tD tR tS t8 hI htt hrs (ft_of hW htt hrs hnb) hq).2.2.2.2.1) hps
          have h29 : F2 29 = F 29 := (k1 29 (by decide) (by decide) (by decide) (by decide) (by decide)).trans rfl
          have h30 : B2 30 = B 30 := (k2 30 (by unfold ps_un; omega)).trans e30
          refine ev_istore_5 112 d_mo_back_112 ?_
          refine ev_aload_0 114 d_mo_back_114 ?_
          refine mo_geti 115 54 d_mo_back_115 lk_224 ?_
          refine ev_ifle 118 158 d_mo_back_118 (fun c118 => ?_) (fun c118 => ?_)
          · refine ev_iconst_1 158 d_mo_back_158 ?_
            refine ev_istore_6 159 d_mo_back_159 ?_
            exact ev_eq (L161 F2 B2 y hl2 h29 (fun F1 B1 hN => Or.inr (Or.inr (Or.inr ⟨tt, htt, rfl, hl2, hnb, w, B9, hs, y, F2, B2, hps, Or.inl ⟨c118, rfl, hN⟩⟩))) 17 0 (by omega) (by omega)) (h3 := congrArg (mo_W mo_ci am kI kZ _) (mo_upid B2 16).symm)
          · refine ev_aload_0 121 d_mo_back_121 ?_
            refine ev_aload_0 122 d_mo_back_122 ?_
            refine mo_geti 123 54 d_mo_back_123 lk_224 ?_
            refine ev_aload_0 126 d_mo_back_126 ?_
            refine mo_geti 127 55 d_mo_back_127 lk_227 ?_
            refine ev_aload_0 130 d_mo_back_130 ?_
            refine mo_geti 131 54 d_mo_back_131 lk_224 ?_
            refine ev_bipush (11) 134 d_mo_back_134 (by decide) ?_
            refine ev_icmpeq 136 148 d_mo_back_136 (fun c136 => ?_) (fun c136 => ?_)
            · refine ev_iload_4 148 d_mo_back_148 ?_
              refine ev_goto 150 154 d_mo_back_150 ?_
              refine mo_calli3 154 d_mo_back_154 hZ kc_284 (mt_trapped (F := F2) (B := B2) hZ (F2 54) (F2 55) (ru (Lv - 2)) Fr Lv hFr hFr2 (fun k hk => by obtain ⟨h, q1, q2, q3⟩ := hfo k hk; rw [q3]; exact vp_in_nI (by omega) (by decide)) (h29.trans hLv) hL6 (fun k hk => by rw [h30, (hru k hk).1]; exact vp_in_nI (hru k hk).2 (by decide)) hJ) (fun x9 F1 B1 h9 => ?_)
              obtain ⟨hx9, e1, e2⟩ := h9
              subst F1
              subst B1
              skip
              refine ev_iret 157 d_mo_back_157 rfl ?_
              exact ⟨_, _, _, rfl, rfl, Or.inr (Or.inr (Or.inr ⟨tt, htt, rfl, hl2, hnb, w, B9, hs, y, F2, B2, hps, Or.inr ⟨c118, hx9, Fr, _, hFr, hFr2, fun _ => rfl, fun z => absurd (Or.inl c136) z, rfl, rfl⟩⟩))⟩
            · refine ev_aload_0 139 d_mo_back_139 ?_
              refine mo_geti 140 54 d_mo_back_140 lk_224 ?_
              refine ev_bipush (12) 143 d_mo_back_143 (by decide) ?_
              refine ev_icmpne 145 153 d_mo_back_145 (fun c145 => ?_) (fun c145 => ?_)
              · refine ev_iload_3 153 d_mo_back_153 ?_
                refine mo_calli3 154 d_mo_back_154 hZ kc_284 (mt_trapped (F := F2) (B := B2) hZ (F2 54) (F2 55) (ru (Lv - 1)) Fr Lv hFr hFr2 (fun k hk => by obtain ⟨h, q1, q2, q3⟩ := hfo k hk; rw [q3]; exact vp_in_nI (by omega) (by decide)) (h29.trans hLv) hL6 (fun k hk => by rw [h30, (hru k hk).1]; exact vp_in_nI (hru k hk).2 (by decide)) hI) (fun x9 F1 B1 h9 => ?_)
                obtain ⟨hx9, e1, e2⟩ := h9
                subst F1
                subst B1
                skip
                refine ev_iret 157 d_mo_back_157 rfl ?_
                exact ⟨_, _, _, rfl, rfl, Or.inr (Or.inr (Or.inr ⟨tt, htt, rfl, hl2, hnb, w, B9, hs, y, F2, B2, hps, Or.inr ⟨c118, hx9, Fr, _, hFr, hFr2, fun z => absurd z (fun y => y.elim c136 c145), fun _ => rfl, rfl, rfl⟩⟩))⟩
              · refine ev_iload_4 148 d_mo_back_148 ?_
                refine ev_goto 150 154 d_mo_back_150 ?_
                refine mo_calli3 154 d_mo_back_154 hZ kc_284 (mt_trapped (F := F2) (B := B2) hZ (F2 54) (F2 55) (ru (Lv - 2)) Fr Lv hFr hFr2 (fun k hk => by obtain ⟨h, q1, q2, q3⟩ := hfo k hk; rw [q3]; exact vp_in_nI (by omega) (by decide)) (h29.trans hLv) hL6 (fun k hk => by rw [h30, (hru k hk).1]; exact vp_in_nI (hru k hk).2 (by decide)) hJ) (fun x9 F1 B1 h9 => ?_)
                obtain ⟨hx9, e1, e2⟩ := h9
                subst F1
                subst B1
                skip
                refine ev_iret 157 d_mo_back_157 rfl ?_
                exact ⟨_, _, _, rfl, rfl, Or.inr (Or.inr (Or.inr ⟨tt, htt, rfl, hl2, hnb, w, B9, hs, y, F2, B2, hps, Or.inr ⟨c118, hx9, Fr, _, hFr, hFr2, fun _ => rfl, fun z => absurd (Or.inr c145) z, rfl, rfl⟩⟩))⟩
        · exact absurd (mo_r0 hx) c57
      · have hnb : ¬ nb_v (nb_r B ct pt 5 tt (rs (cf (Lv - 1))) 0) = 0 := fun z => c46 (by rw [hm9, z]; decide)
        refine ev_iconst_3 49 d_mo_back_49 ?_
        refine ev_goto 50 54 d_mo_back_50 ?_
        refine mo_calli1 54 d_mo_back_54 hZ kc_157 (mt_refuses hZ _) (fun x F8 B8 h => ?_)
        obtain ⟨hx, e1, e2⟩ := h
        subst F8
        subst B8
        refine ev_ifeq 57 62 d_mo_back_57 (fun c57 => ?_) (fun c57 => ?_)
        · exact absurd c57 (mo_rk hx (by decide))
        · refine ev_iconst_0 60 d_mo_back_60 ?_
          refine ev_iret 61 d_mo_back_61 rfl ?_
          exact ⟨_, _, _, rfl, rfl, Or.inr (Or.inr (Or.inl ⟨tt, htt, rfl, hl2, hnb, rfl, ⟨w, rfl⟩, hs⟩))⟩
    · refine ev_iconst_2 21 d_mo_back_21 ?_
      refine ev_goto 22 54 d_mo_back_22 ?_
      refine mo_calli1 54 d_mo_back_54 hZ kc_157 (mt_refuses hZ _) (fun x F8 B8 h => ?_)
      obtain ⟨hx, e1, e2⟩ := h
      subst F8
      subst B8
      refine ev_ifeq 57 62 d_mo_back_57 (fun c57 => ?_) (fun c57 => ?_)
      · exact absurd c57 (mo_rk hx (by decide))
      · refine ev_iconst_0 60 d_mo_back_60 ?_
        refine ev_iret 61 d_mo_back_61 rfl ?_
        exact ⟨_, _, _, rfl, rfl, Or.inr (Or.inl ⟨hl2, mo_b0 hy c18, rfl, rfl, mo_sw.rf _ _⟩)⟩
  · have hl2 : ¬ 2 ≤ Lv := by have := n_nle 2 Lv c6 rfl hLv; omega
    refine ev_iconst_1 9 d_mo_back_9 ?_
    refine ev_goto 10 54 d_mo_back_10 ?_
    refine mo_calli1 54 d_mo_back_54 hZ kc_157 (mt_refuses hZ _) (fun x F8 B8 h => ?_)
    obtain ⟨hx, e1, e2⟩ := h
    subst F8
    subst B8
    refine ev_ifeq 57 62 d_mo_back_57 (fun c57 => ?_) (fun c57 => ?_)
    · exact absurd c57 (mo_rk hx (by decide))
    · refine ev_iconst_0 60 d_mo_back_60 ?_
      refine ev_iret 61 d_mo_back_61 rfl ?_
      exact ⟨_, _, _, rfl, rfl, Or.inl ⟨hl2, rfl, rfl, mo_sw.rf _ _⟩⟩
