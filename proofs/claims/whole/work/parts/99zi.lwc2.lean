set_option maxHeartbeats 4000000 in
set_option maxRecDepth 100000 in
theorem lc_part {l : Launch} {D : va_G} {tl : List (ClassId × FieldType)} {Z : (Nat → Prop) → State → Heap → Prop} {ks : Nat → ClassId} {hd : Nat → Nat} {ta tz b L : Nat} {xs : Nat → Int32} {E : ev_T} {cells slots n i : Nat} {K : List Nat} {am N : Nat → Nat} {S : gS} {F : Nat → Int32} {B : Nat → Nat → Int32} {bm : Nat → Nat} {oq : Nat} {o : Nat → Int64} (H : lw_H l Z hd ta tz b L xs) (hL : L ≤ 3072) (hn : n < 1000) (hi : i + 5 < L) (hc : cells + 32 ≤ 601024) (hs : slots + 512 ≤ 7293034) (hR : RX hd n K am N S F B) (kk : lw_K l D tl Z ks hd E b (am 0) bm oq i (cells + 32) (slots + 512) n) : EV (hc_π l D ks tl Z) lw_M E cells slots 148 (lw_lv b (am 0) (bm 60) oq i) [] (lw_Wd K am ks N S oq o bm F B) := by
  obtain ⟨hl, hzx, hZ, hNw, hAO, hST, hZ9, hDi, hnc, hzs⟩ := H
  have hK := hR.k0
  obtain ⟨Q, X, P, hM, hMo, hJ⟩ := jn_part (k := 21) (bm := bm) (ks := ks) (tl := tl) (D := D) hl hzx hZ hNw hAO ta tz hST hZ9 hDi (by decide) hn hR (xs (i + 1))
  refine ev_aload_1 148 d_lw_law_148 ?_
  refine ev_aload_0 149 d_lw_law_149 ?_
  refine ev_iload_4 150 d_lw_law_150 ?_
  refine ev_iconst_1 152 d_lw_law_152 ?_
  refine ev_iadd 153 d_lw_law_153 ?_
  refine ev_topi (nI (i + 1)) (nI_add i 1) ?_
  refine ev_sld 154 d_lw_law_154 hzs (vp_in_nI (by omega) (by omega)) ?_
  refine ev_topi (xs (i + 1)) (by rw [nI_clamp (by omega)]) ?_
  refine ev_aload_3 155 d_lw_law_155 ?_
  refine ev_callSW (mc := 1) (ms := 6) 156 [.ref (am 0), .int (xs (i + 1)), .ref oq] [] d_lw_law_156 hZ ks_part ⟨rfl, rfl, ⟨by decide, by decide⟩, Nat.le_trans (Nat.add_le_add_left (by decide) _) hc, Nat.le_trans (Nat.add_le_add_left (by decide) _) hs⟩ (mt_frame hZ (hw_part hZ hnc (xs (i + 1)) hK hM (fun r w hq => (hJ.1 r w hq).imp (fun _ h => h.1)) (fun E w hx => (hJ.2 E w hx).imp (fun _ h => h.1))) (mo_W mo_ci bm (ks 0) (ks 1) F B)) (fun r w hw => ?_)
  obtain ⟨w2, rfl, hw⟩ := hw
  refine ev_wd (k := cells + 32) (n := slots + 512) (Nat.add_le_add_left (by decide) _) (Nat.add_le_add_left (by decide) _) ?_
  obtain ⟨kc, w1, o', rfl, rfl, hP⟩ := lw_join Int32.toInt64 cdu_part hJ hw
  refine ev_eq (st' := [.int kc]) ?_
  refine ev_istore_5 159 d_lw_law_159 ?_ (hn := by exact Nat.le_of_ble_eq_true rfl)
  refine ev_swap ?_
  refine ev_aload_2 161 d_lw_law_161 ?_
  refine ev_aload_0 162 d_lw_law_162 ?_
  refine ev_iload_4 163 d_lw_law_163 ?_
  refine ev_iconst_1 165 d_lw_law_165 ?_
  refine ev_iadd 166 d_lw_law_166 ?_
  refine ev_topi (nI (i + 1)) (nI_add i 1) ?_
  refine ev_sld 167 d_lw_law_167 hzs (vp_in_nI (by omega) (by omega)) ?_
  refine ev_topi (xs (i + 1)) (by rw [nI_clamp (by omega)]) ?_
  refine ev_callV (mc := 0) (ms := 0) (ci := 9) 168 0 [.int (xs (i + 1))] [] d_lw_law_168 hZ km_part (kM9 hc hs (by decide)) (at_l mo_at0) rfl (mt_frame hZ hMo (w1 ++ [lw_o ks oq o'])) (fun r w hw => ?_)
  obtain ⟨w3, rfl, x, F1, B1, rfl, rfl, hp⟩ := hw
  obtain ⟨g0, g1, g2⟩ := hP x F1 B1 hp
  refine ev_eq (st' := [.int x]) ?_
  refine ev_istore_6 171 d_lw_law_171 ?_ (hn := by exact Nat.le_of_ble_eq_true rfl)
  refine ev_aload_2 173 d_lw_law_173 ?_
  refine ev_callV (mc := 0) (ms := 0) (ci := 9) 174 0 [] [] d_lw_law_174 hZ km_thrown (kM9 hc hs (by decide)) (at_l mo_at0) rfl (mt_frame hZ (mt_thrown hZ) (w1 ++ [lw_o ks oq o'])) (fun r w hw => ?_)
  obtain ⟨w3, rfl, x9, F9, B9, rfl, rfl, rfl, e9, f9⟩ := hw
  subst e9
  subst f9
  refine ev_eq (st' := [.int (F9 0)]) ?_
  refine ev_iload_5 177 d_lw_law_177 ?_
  refine ev_icmpeq 179 184 d_lw_law_179 (fun _ => ?_) (fun c9 => absurd g0 c9)
  refine ev_iload_5 184 d_lw_law_184 ?_
  refine ev_ifne 186 201 d_lw_law_186 (fun _ => ?_) (fun c0 => ?_)
  · refine ev_goto 201 1450 d_lw_law_201 ?_
    exact (lw_end kk (Nat.le_refl _) (Nat.le_refl _) g2)
  · refine ev_aload_3 189 d_lw_law_189 ?_
    refine ev_iconst_0 190 d_lw_law_190 ?_
    refine ev_lald 191 ((mo_W mo_ci bm (ks 0) (ks 1) F9 B9).length + w1.length) 2 d_lw_law_191 at_e2 rfl (show vp_in (nI 0) 1 from vp_in_nI (by decide) (by decide)) ?_
    refine ev_iload_6 192 d_lw_law_192 ?_
    refine ev_i2l 194 d_lw_law_194 ?_
    refine ev_lcmp 195 d_lw_law_195 ?_
    refine ev_ifeq 196 201 d_lw_law_196 (fun _ => ?_) (fun c9 => absurd (by rw [show o' (0 : Int32).toNatClampNeg = x.toInt64 from g1 c0]; exact lg_self _) c9)
    refine ev_goto 201 1450 d_lw_law_201 ?_
    exact (lw_end kk (Nat.le_refl _) (Nat.le_refl _) g2)
set_option maxHeartbeats 4000000 in
set_option maxRecDepth 100000 in
theorem lc_type {l : Launch} {D : va_G} {tl : List (ClassId × FieldType)} {Z : (Nat → Prop) → State → Heap → Prop} {ks : Nat → ClassId} {hd : Nat → Nat} {ta tz b L : Nat} {xs : Nat → Int32} {E : ev_T} {cells slots n i : Nat} {K : List Nat} {am N : Nat → Nat} {S : gS} {F : Nat → Int32} {B : Nat → Nat → Int32} {bm : Nat → Nat} {oq : Nat} {o : Nat → Int64} (H : lw_H l Z hd ta tz b L xs) (hL : L ≤ 3072) (hn : n < 1000) (hi : i + 5 < L) (hc : cells + 32 ≤ 601024) (hs : slots + 512 ≤ 7293034) (hR : RX hd n K am N S F B) (kk : lw_K l D tl Z ks hd E b (am 0) bm oq i (cells + 32) (slots + 512) n) : EV (hc_π l D ks tl Z) lw_M E cells slots 204 (lw_lv b (am 0) (bm 60) oq i) [] (lw_Wd K am ks N S oq o bm F B) := by
  obtain ⟨hl, hzx, hZ, hNw, hAO, hST, hZ9, hDi, hnc, hzs⟩ := H
  have hK := hR.k0
  obtain ⟨Q, X, P, hM, hMo, hJ⟩ := jn_type (k := 21) (bm := bm) (ks := ks) (tl := tl) (D := D) hl hzx hZ hNw hAO ta tz hST hZ9 hDi (by decide) hn hR (xs (i + 1)) (xs (i + 2))
  refine ev_aload_1 204 d_lw_law_204 ?_
  refine ev_aload_0 205 d_lw_law_205 ?_
  refine ev_iload_4 206 d_lw_law_206 ?_
  refine ev_iconst_1 208 d_lw_law_208 ?_
  refine ev_iadd 209 d_lw_law_209 ?_
  refine ev_topi (nI (i + 1)) (nI_add i 1) ?_
  refine ev_sld 210 d_lw_law_210 hzs (vp_in_nI (by omega) (by omega)) ?_
  refine ev_topi (xs (i + 1)) (by rw [nI_clamp (by omega)]) ?_
  refine ev_aload_0 211 d_lw_law_211 ?_
  refine ev_iload_4 212 d_lw_law_212 ?_
  refine ev_iconst_2 214 d_lw_law_214 ?_
  refine ev_iadd 215 d_lw_law_215 ?_
  refine ev_topi (nI (i + 2)) (nI_add i 2) ?_
  refine ev_sld 216 d_lw_law_216 hzs (vp_in_nI (by omega) (by omega)) ?_
  refine ev_topi (xs (i + 2)) (by rw [nI_clamp (by omega)]) ?_
  refine ev_aload_3 217 d_lw_law_217 ?_
  refine ev_callSW (mc := 4) (ms := 27) 218 [.ref (am 0), .int (xs (i + 1)), .int (xs (i + 2)), .ref oq] [] d_lw_law_218 hZ ks_type ⟨rfl, rfl, ⟨by decide, by decide⟩, Nat.le_trans (Nat.add_le_add_left (by decide) _) hc, Nat.le_trans (Nat.add_le_add_left (by decide) _) hs⟩ (mt_frame hZ (hw_type hZ hnc (xs (i + 1)) (xs (i + 2)) hK hM (fun r w hq => (hJ.1 r w hq).imp (fun _ h => h.1)) (fun E w hx => (hJ.2 E w hx).imp (fun _ h => h.1))) (mo_W mo_ci bm (ks 0) (ks 1) F B)) (fun r w hw => ?_)
  obtain ⟨w2, rfl, hw⟩ := hw
  refine ev_wd (k := cells + 32) (n := slots + 512) (Nat.add_le_add_left (by decide) _) (Nat.add_le_add_left (by decide) _) ?_
  obtain ⟨kc, w1, o', rfl, rfl, hP⟩ := lw_join Int32.toInt64 cdu_type hJ hw
  refine ev_eq (st' := [.int kc]) ?_
  refine ev_istore_5 221 d_lw_law_221 ?_ (hn := by exact Nat.le_of_ble_eq_true rfl)
  refine ev_swap ?_
  refine ev_aload_2 223 d_lw_law_223 ?_
  refine ev_aload_0 224 d_lw_law_224 ?_
  refine ev_iload_4 225 d_lw_law_225 ?_
  refine ev_iconst_1 227 d_lw_law_227 ?_
  refine ev_iadd 228 d_lw_law_228 ?_
  refine ev_topi (nI (i + 1)) (nI_add i 1) ?_
  refine ev_sld 229 d_lw_law_229 hzs (vp_in_nI (by omega) (by omega)) ?_
  refine ev_topi (xs (i + 1)) (by rw [nI_clamp (by omega)]) ?_
  refine ev_aload_0 230 d_lw_law_230 ?_
  refine ev_iload_4 231 d_lw_law_231 ?_
  refine ev_iconst_2 233 d_lw_law_233 ?_
  refine ev_iadd 234 d_lw_law_234 ?_
  refine ev_topi (nI (i + 2)) (nI_add i 2) ?_
  refine ev_sld 235 d_lw_law_235 hzs (vp_in_nI (by omega) (by omega)) ?_
  refine ev_topi (xs (i + 2)) (by rw [nI_clamp (by omega)]) ?_
  refine ev_callV (mc := 0) (ms := 0) (ci := 9) 236 0 [.int (xs (i + 1)), .int (xs (i + 2))] [] d_lw_law_236 hZ km_type (kM9 hc hs (by decide)) (at_l mo_at0) rfl (mt_frame hZ hMo (w1 ++ [lw_o ks oq o'])) (fun r w hw => ?_)
  obtain ⟨w3, rfl, x, F1, B1, rfl, rfl, hp⟩ := hw
  obtain ⟨g0, g1, g2⟩ := hP x F1 B1 hp
  refine ev_eq (st' := [.int x]) ?_
  refine ev_istore_6 239 d_lw_law_239 ?_ (hn := by exact Nat.le_of_ble_eq_true rfl)
  refine ev_aload_2 241 d_lw_law_241 ?_
  refine ev_callV (mc := 0) (ms := 0) (ci := 9) 242 0 [] [] d_lw_law_242 hZ km_thrown (kM9 hc hs (by decide)) (at_l mo_at0) rfl (mt_frame hZ (mt_thrown hZ) (w1 ++ [lw_o ks oq o'])) (fun r w hw => ?_)
  obtain ⟨w3, rfl, x9, F9, B9, rfl, rfl, rfl, e9, f9⟩ := hw
  subst e9
  subst f9
  refine ev_eq (st' := [.int (F9 0)]) ?_
  refine ev_iload_5 245 d_lw_law_245 ?_
  refine ev_icmpeq 247 252 d_lw_law_247 (fun _ => ?_) (fun c9 => absurd g0 c9)
  refine ev_iload_5 252 d_lw_law_252 ?_
  refine ev_ifne 254 269 d_lw_law_254 (fun _ => ?_) (fun c0 => ?_)
  · refine ev_goto 269 1450 d_lw_law_269 ?_
    exact (lw_end kk (Nat.le_refl _) (Nat.le_refl _) g2)
  · refine ev_aload_3 257 d_lw_law_257 ?_
    refine ev_iconst_0 258 d_lw_law_258 ?_
    refine ev_lald 259 ((mo_W mo_ci bm (ks 0) (ks 1) F9 B9).length + w1.length) 2 d_lw_law_259 at_e2 rfl (show vp_in (nI 0) 1 from vp_in_nI (by decide) (by decide)) ?_
    refine ev_iload_6 260 d_lw_law_260 ?_
    refine ev_i2l 262 d_lw_law_262 ?_
    refine ev_lcmp 263 d_lw_law_263 ?_
    refine ev_ifeq 264 269 d_lw_law_264 (fun _ => ?_) (fun c9 => absurd (by rw [show o' (0 : Int32).toNatClampNeg = x.toInt64 from g1 c0]; exact lg_self _) c9)
    refine ev_goto 269 1450 d_lw_law_269 ?_
    exact (lw_end kk (Nat.le_refl _) (Nat.le_refl _) g2)
set_option maxHeartbeats 4000000 in
set_option maxRecDepth 100000 in
theorem lc_layout {l : Launch} {D : va_G} {tl : List (ClassId × FieldType)} {Z : (Nat → Prop) → State → Heap → Prop} {ks : Nat → ClassId} {hd : Nat → Nat} {ta tz b L : Nat} {xs : Nat → Int32} {E : ev_T} {cells slots n i : Nat} {K : List Nat} {am N : Nat → Nat} {S : gS} {F : Nat → Int32} {B : Nat → Nat → Int32} {bm : Nat → Nat} {oq : Nat} {o : Nat → Int64} (H : lw_H l Z hd ta tz b L xs) (hL : L ≤ 3072) (hn : n < 1000) (hi : i + 5 < L) (hc : cells + 32 ≤ 601024) (hs : slots + 512 ≤ 7293034) (hR : RX hd n K am N S F B) (kk : lw_K l D tl Z ks hd E b (am 0) bm oq i (cells + 32) (slots + 512) n) : EV (hc_π l D ks tl Z) lw_M E cells slots 272 (lw_lv b (am 0) (bm 60) oq i) [] (lw_Wd K am ks N S oq o bm F B) := by
  obtain ⟨hl, hzx, hZ, hNw, hAO, hST, hZ9, hDi, hnc, hzs⟩ := H
  have hK := hR.k0
  obtain ⟨Q, X, P, hM, hMo, hJ⟩ := jn_layout (k := 21) (bm := bm) (ks := ks) (tl := tl) (D := D) hl hzx hZ hNw hAO ta tz hST hZ9 hDi (by decide) hn hR (xs (i + 1)) (xs (i + 2))
  refine ev_aload_1 272 d_lw_law_272 ?_
  refine ev_aload_0 273 d_lw_law_273 ?_
  refine ev_iload_4 274 d_lw_law_274 ?_
  refine ev_iconst_1 276 d_lw_law_276 ?_
  refine ev_iadd 277 d_lw_law_277 ?_
  refine ev_topi (nI (i + 1)) (nI_add i 1) ?_
  refine ev_sld 278 d_lw_law_278 hzs (vp_in_nI (by omega) (by omega)) ?_
  refine ev_topi (xs (i + 1)) (by rw [nI_clamp (by omega)]) ?_
  refine ev_aload_0 279 d_lw_law_279 ?_
  refine ev_iload_4 280 d_lw_law_280 ?_
  refine ev_iconst_2 282 d_lw_law_282 ?_
  refine ev_iadd 283 d_lw_law_283 ?_
  refine ev_topi (nI (i + 2)) (nI_add i 2) ?_
  refine ev_sld 284 d_lw_law_284 hzs (vp_in_nI (by omega) (by omega)) ?_
  refine ev_topi (xs (i + 2)) (by rw [nI_clamp (by omega)]) ?_
  refine ev_aload_3 285 d_lw_law_285 ?_
  refine ev_callSW (mc := 1) (ms := 6) 286 [.ref (am 0), .int (xs (i + 1)), .int (xs (i + 2)), .ref oq] [] d_lw_law_286 hZ ks_layout ⟨rfl, rfl, ⟨by decide, by decide⟩, Nat.le_trans (Nat.add_le_add_left (by decide) _) hc, Nat.le_trans (Nat.add_le_add_left (by decide) _) hs⟩ (mt_frame hZ (hw_layout hZ hnc (xs (i + 1)) (xs (i + 2)) hK hM (fun r w hq => (hJ.1 r w hq).imp (fun _ h => h.1)) (fun E w hx => (hJ.2 E w hx).imp (fun _ h => h.1))) (mo_W mo_ci bm (ks 0) (ks 1) F B)) (fun r w hw => ?_)
  obtain ⟨w2, rfl, hw⟩ := hw
  refine ev_wd (k := cells + 32) (n := slots + 512) (Nat.add_le_add_left (by decide) _) (Nat.add_le_add_left (by decide) _) ?_
  obtain ⟨kc, w1, o', rfl, rfl, hP⟩ := lw_join Int32.toInt64 cdu_layout hJ hw
  refine ev_eq (st' := [.int kc]) ?_
  refine ev_istore_5 289 d_lw_law_289 ?_ (hn := by exact Nat.le_of_ble_eq_true rfl)
  refine ev_swap ?_
  refine ev_aload_2 291 d_lw_law_291 ?_
  refine ev_aload_0 292 d_lw_law_292 ?_
  refine ev_iload_4 293 d_lw_law_293 ?_
  refine ev_iconst_1 295 d_lw_law_295 ?_
  refine ev_iadd 296 d_lw_law_296 ?_
  refine ev_topi (nI (i + 1)) (nI_add i 1) ?_
  refine ev_sld 297 d_lw_law_297 hzs (vp_in_nI (by omega) (by omega)) ?_
  refine ev_topi (xs (i + 1)) (by rw [nI_clamp (by omega)]) ?_
  refine ev_aload_0 298 d_lw_law_298 ?_
  refine ev_iload_4 299 d_lw_law_299 ?_
  refine ev_iconst_2 301 d_lw_law_301 ?_
  refine ev_iadd 302 d_lw_law_302 ?_
  refine ev_topi (nI (i + 2)) (nI_add i 2) ?_
  refine ev_sld 303 d_lw_law_303 hzs (vp_in_nI (by omega) (by omega)) ?_
  refine ev_topi (xs (i + 2)) (by rw [nI_clamp (by omega)]) ?_
  refine ev_callV (mc := 0) (ms := 0) (ci := 9) 304 0 [.int (xs (i + 1)), .int (xs (i + 2))] [] d_lw_law_304 hZ km_layout (kM9 hc hs (by decide)) (at_l mo_at0) rfl (mt_frame hZ hMo (w1 ++ [lw_o ks oq o'])) (fun r w hw => ?_)
  obtain ⟨w3, rfl, x, F1, B1, rfl, rfl, hp⟩ := hw
  obtain ⟨g0, g1, g2⟩ := hP x F1 B1 hp
  refine ev_eq (st' := [.int x]) ?_
  refine ev_istore_6 307 d_lw_law_307 ?_ (hn := by exact Nat.le_of_ble_eq_true rfl)
  refine ev_aload_2 309 d_lw_law_309 ?_
  refine ev_callV (mc := 0) (ms := 0) (ci := 9) 310 0 [] [] d_lw_law_310 hZ km_thrown (kM9 hc hs (by decide)) (at_l mo_at0) rfl (mt_frame hZ (mt_thrown hZ) (w1 ++ [lw_o ks oq o'])) (fun r w hw => ?_)
  obtain ⟨w3, rfl, x9, F9, B9, rfl, rfl, rfl, e9, f9⟩ := hw
  subst e9
  subst f9
  refine ev_eq (st' := [.int (F9 0)]) ?_
  refine ev_iload_5 313 d_lw_law_313 ?_
  refine ev_icmpeq 315 320 d_lw_law_315 (fun _ => ?_) (fun c9 => absurd g0 c9)
  refine ev_iload_5 320 d_lw_law_320 ?_
  refine ev_ifne 322 337 d_lw_law_322 (fun _ => ?_) (fun c0 => ?_)
  · refine ev_goto 337 1450 d_lw_law_337 ?_
    exact (lw_end kk (Nat.le_refl _) (Nat.le_refl _) g2)
  · refine ev_aload_3 325 d_lw_law_325 ?_
    refine ev_iconst_0 326 d_lw_law_326 ?_
    refine ev_lald 327 ((mo_W mo_ci bm (ks 0) (ks 1) F9 B9).length + w1.length) 2 d_lw_law_327 at_e2 rfl (show vp_in (nI 0) 1 from vp_in_nI (by decide) (by decide)) ?_
    refine ev_iload_6 328 d_lw_law_328 ?_
    refine ev_i2l 330 d_lw_law_330 ?_
    refine ev_lcmp 331 d_lw_law_331 ?_
    refine ev_ifeq 332 337 d_lw_law_332 (fun _ => ?_) (fun c9 => absurd (by rw [show o' (0 : Int32).toNatClampNeg = x.toInt64 from g1 c0]; exact lg_self _) c9)
    refine ev_goto 337 1450 d_lw_law_337 ?_
    exact (lw_end kk (Nat.le_refl _) (Nat.le_refl _) g2)
set_option maxHeartbeats 4000000 in
set_option maxRecDepth 100000 in
theorem lc_fits {l : Launch} {D : va_G} {tl : List (ClassId × FieldType)} {Z : (Nat → Prop) → State → Heap → Prop} {ks : Nat → ClassId} {hd : Nat → Nat} {ta tz b L : Nat} {xs : Nat → Int32} {E : ev_T} {cells slots n i : Nat} {K : List Nat} {am N : Nat → Nat} {S : gS} {F : Nat → Int32} {B : Nat → Nat → Int32} {bm : Nat → Nat} {oq : Nat} {o : Nat → Int64} (H : lw_H l Z hd ta tz b L xs) (hL : L ≤ 3072) (hn : n < 1000) (hi : i + 5 < L) (hc : cells + 32 ≤ 601024) (hs : slots + 512 ≤ 7293034) (hR : RX hd n K am N S F B) (kk : lw_K l D tl Z ks hd E b (am 0) bm oq i (cells + 32) (slots + 512) n) : EV (hc_π l D ks tl Z) lw_M E cells slots 340 (lw_lv b (am 0) (bm 60) oq i) [] (lw_Wd K am ks N S oq o bm F B) := by
  obtain ⟨hl, hzx, hZ, hNw, hAO, hST, hZ9, hDi, hnc, hzs⟩ := H
  have hK := hR.k0
  obtain ⟨Q, X, P, hM, hMo, hJ⟩ := jn_fits (k := 21) (bm := bm) (ks := ks) (tl := tl) (D := D) hl hzx hZ hNw hAO ta tz hST hZ9 hDi (by decide) hn hR (xs (i + 1)) (xs (i + 2))
  refine ev_aload_1 340 d_lw_law_340 ?_
  refine ev_aload_0 341 d_lw_law_341 ?_
  refine ev_iload_4 342 d_lw_law_342 ?_
  refine ev_iconst_1 344 d_lw_law_344 ?_
  refine ev_iadd 345 d_lw_law_345 ?_
  refine ev_topi (nI (i + 1)) (nI_add i 1) ?_
  refine ev_sld 346 d_lw_law_346 hzs (vp_in_nI (by omega) (by omega)) ?_
  refine ev_topi (xs (i + 1)) (by rw [nI_clamp (by omega)]) ?_
  refine ev_aload_0 347 d_lw_law_347 ?_
  refine ev_iload_4 348 d_lw_law_348 ?_
  refine ev_iconst_2 350 d_lw_law_350 ?_
  refine ev_iadd 351 d_lw_law_351 ?_
  refine ev_topi (nI (i + 2)) (nI_add i 2) ?_
  refine ev_sld 352 d_lw_law_352 hzs (vp_in_nI (by omega) (by omega)) ?_
  refine ev_topi (xs (i + 2)) (by rw [nI_clamp (by omega)]) ?_
  refine ev_aload_3 353 d_lw_law_353 ?_
  refine ev_callSW (mc := 1) (ms := 6) 354 [.ref (am 0), .int (xs (i + 1)), .int (xs (i + 2)), .ref oq] [] d_lw_law_354 hZ ks_fits ⟨rfl, rfl, ⟨by decide, by decide⟩, Nat.le_trans (Nat.add_le_add_left (by decide) _) hc, Nat.le_trans (Nat.add_le_add_left (by decide) _) hs⟩ (mt_frame hZ (hw_fits hZ hnc (xs (i + 1)) (xs (i + 2)) hK hM (fun r w hq => (hJ.1 r w hq).imp (fun _ h => h.1)) (fun E w hx => (hJ.2 E w hx).imp (fun _ h => h.1))) (mo_W mo_ci bm (ks 0) (ks 1) F B)) (fun r w hw => ?_)
  obtain ⟨w2, rfl, hw⟩ := hw
  refine ev_wd (k := cells + 32) (n := slots + 512) (Nat.add_le_add_left (by decide) _) (Nat.add_le_add_left (by decide) _) ?_
  obtain ⟨kc, w1, o', rfl, rfl, hP⟩ := lw_join Int32.toInt64 cdu_fits hJ hw
  refine ev_eq (st' := [.int kc]) ?_
  refine ev_istore_5 357 d_lw_law_357 ?_ (hn := by exact Nat.le_of_ble_eq_true rfl)
  refine ev_swap ?_
  refine ev_aload_2 359 d_lw_law_359 ?_
  refine ev_aload_0 360 d_lw_law_360 ?_
  refine ev_iload_4 361 d_lw_law_361 ?_
  refine ev_iconst_1 363 d_lw_law_363 ?_
  refine ev_iadd 364 d_lw_law_364 ?_
  refine ev_topi (nI (i + 1)) (nI_add i 1) ?_
  refine ev_sld 365 d_lw_law_365 hzs (vp_in_nI (by omega) (by omega)) ?_
  refine ev_topi (xs (i + 1)) (by rw [nI_clamp (by omega)]) ?_
  refine ev_aload_0 366 d_lw_law_366 ?_
  refine ev_iload_4 367 d_lw_law_367 ?_
  refine ev_iconst_2 369 d_lw_law_369 ?_
  refine ev_iadd 370 d_lw_law_370 ?_
  refine ev_topi (nI (i + 2)) (nI_add i 2) ?_
  refine ev_sld 371 d_lw_law_371 hzs (vp_in_nI (by omega) (by omega)) ?_
  refine ev_topi (xs (i + 2)) (by rw [nI_clamp (by omega)]) ?_
  refine ev_callV (mc := 0) (ms := 0) (ci := 9) 372 0 [.int (xs (i + 1)), .int (xs (i + 2))] [] d_lw_law_372 hZ km_fits (kM9 hc hs (by decide)) (at_l mo_at0) rfl (mt_frame hZ hMo (w1 ++ [lw_o ks oq o'])) (fun r w hw => ?_)
  obtain ⟨w3, rfl, x, F1, B1, rfl, rfl, hp⟩ := hw
  obtain ⟨g0, g1, g2⟩ := hP x F1 B1 hp
  refine ev_eq (st' := [.int x]) ?_
  refine ev_istore_6 375 d_lw_law_375 ?_ (hn := by exact Nat.le_of_ble_eq_true rfl)
  refine ev_aload_2 377 d_lw_law_377 ?_
  refine ev_callV (mc := 0) (ms := 0) (ci := 9) 378 0 [] [] d_lw_law_378 hZ km_thrown (kM9 hc hs (by decide)) (at_l mo_at0) rfl (mt_frame hZ (mt_thrown hZ) (w1 ++ [lw_o ks oq o'])) (fun r w hw => ?_)
  obtain ⟨w3, rfl, x9, F9, B9, rfl, rfl, rfl, e9, f9⟩ := hw
  subst e9
  subst f9
  refine ev_eq (st' := [.int (F9 0)]) ?_
  refine ev_iload_5 381 d_lw_law_381 ?_
  refine ev_icmpeq 383 388 d_lw_law_383 (fun _ => ?_) (fun c9 => absurd g0 c9)
  refine ev_iload_5 388 d_lw_law_388 ?_
  refine ev_ifne 390 405 d_lw_law_390 (fun _ => ?_) (fun c0 => ?_)
  · refine ev_goto 405 1450 d_lw_law_405 ?_
    exact (lw_end kk (Nat.le_refl _) (Nat.le_refl _) g2)
  · refine ev_aload_3 393 d_lw_law_393 ?_
    refine ev_iconst_0 394 d_lw_law_394 ?_
    refine ev_lald 395 ((mo_W mo_ci bm (ks 0) (ks 1) F9 B9).length + w1.length) 2 d_lw_law_395 at_e2 rfl (show vp_in (nI 0) 1 from vp_in_nI (by decide) (by decide)) ?_
    refine ev_iload_6 396 d_lw_law_396 ?_
    refine ev_i2l 398 d_lw_law_398 ?_
    refine ev_lcmp 399 d_lw_law_399 ?_
    refine ev_ifeq 400 405 d_lw_law_400 (fun _ => ?_) (fun c9 => absurd (by rw [show o' (0 : Int32).toNatClampNeg = x.toInt64 from g1 c0]; exact lg_self _) c9)
    refine ev_goto 405 1450 d_lw_law_405 ?_
    exact (lw_end kk (Nat.le_refl _) (Nat.le_refl _) g2)
set_option maxHeartbeats 4000000 in
set_option maxRecDepth 100000 in
theorem lc_instance {l : Launch} {D : va_G} {tl : List (ClassId × FieldType)} {Z : (Nat → Prop) → State → Heap → Prop} {ks : Nat → ClassId} {hd : Nat → Nat} {ta tz b L : Nat} {xs : Nat → Int32} {E : ev_T} {cells slots n i : Nat} {K : List Nat} {am N : Nat → Nat} {S : gS} {F : Nat → Int32} {B : Nat → Nat → Int32} {bm : Nat → Nat} {oq : Nat} {o : Nat → Int64} (H : lw_H l Z hd ta tz b L xs) (hL : L ≤ 3072) (hn : n < 1000) (hi : i + 5 < L) (hc : cells + 32 ≤ 601024) (hs : slots + 512 ≤ 7293034) (hR : RX hd n K am N S F B) (kk : lw_K l D tl Z ks hd E b (am 0) bm oq i (cells + 32) (slots + 512) n) : EV (hc_π l D ks tl Z) lw_M E cells slots 408 (lw_lv b (am 0) (bm 60) oq i) [] (lw_Wd K am ks N S oq o bm F B) := by
  obtain ⟨hl, hzx, hZ, hNw, hAO, hST, hZ9, hDi, hnc, hzs⟩ := H
  have hK := hR.k0
  obtain ⟨Q, X, P, hM, hMo, hJ⟩ := jn_instance (k := 21) (bm := bm) (ks := ks) (tl := tl) (D := D) hl hzx hZ hNw hAO ta tz hST hZ9 hDi (by decide) hn hR 
  refine ev_aload_1 408 d_lw_law_408 ?_
  refine ev_aload_3 409 d_lw_law_409 ?_
  refine ev_callSW (mc := 19) (ms := 356) 410 [.ref (am 0), .ref oq] [] d_lw_law_410 hZ ks_instance ⟨rfl, rfl, ⟨by decide, by decide⟩, Nat.le_trans (Nat.add_le_add_left (by decide) _) hc, Nat.le_trans (Nat.add_le_add_left (by decide) _) hs⟩ (mt_frame hZ (hw_instance hZ hnc  hK hM (fun r w hq => (hJ.1 r w hq).imp (fun _ h => h.1)) (fun E w hx => (hJ.2 E w hx).imp (fun _ h => h.1))) (mo_W mo_ci bm (ks 0) (ks 1) F B)) (fun r w hw => ?_)
  obtain ⟨w2, rfl, hw⟩ := hw
  refine ev_wd (k := cells + 32) (n := slots + 512) (Nat.add_le_add_left (by decide) _) (Nat.add_le_add_left (by decide) _) ?_
  obtain ⟨kc, w1, o', rfl, rfl, hP⟩ := lw_join Int32.toInt64 cdu_instance hJ hw
  refine ev_eq (st' := [.int kc]) ?_
  refine ev_istore_5 413 d_lw_law_413 ?_ (hn := by exact Nat.le_of_ble_eq_true rfl)
  refine ev_swap ?_
  refine ev_aload_2 415 d_lw_law_415 ?_
  refine ev_callV (mc := 0) (ms := 0) (ci := 9) 416 0 [] [] d_lw_law_416 hZ km_instance (kM9 hc hs (by decide)) (at_l mo_at0) rfl (mt_frame hZ hMo (w1 ++ [lw_o ks oq o'])) (fun r w hw => ?_)
  obtain ⟨w3, rfl, x, F1, B1, rfl, rfl, hp⟩ := hw
  obtain ⟨g0, g1, g2⟩ := hP x F1 B1 hp
  refine ev_eq (st' := [.int x]) ?_
  refine ev_istore_6 419 d_lw_law_419 ?_ (hn := by exact Nat.le_of_ble_eq_true rfl)
  refine ev_aload_2 421 d_lw_law_421 ?_
  refine ev_callV (mc := 0) (ms := 0) (ci := 9) 422 0 [] [] d_lw_law_422 hZ km_thrown (kM9 hc hs (by decide)) (at_l mo_at0) rfl (mt_frame hZ (mt_thrown hZ) (w1 ++ [lw_o ks oq o'])) (fun r w hw => ?_)
  obtain ⟨w3, rfl, x9, F9, B9, rfl, rfl, rfl, e9, f9⟩ := hw
  subst e9
  subst f9
  refine ev_eq (st' := [.int (F9 0)]) ?_
  refine ev_iload_5 425 d_lw_law_425 ?_
  refine ev_icmpeq 427 432 d_lw_law_427 (fun _ => ?_) (fun c9 => absurd g0 c9)
  refine ev_iload_5 432 d_lw_law_432 ?_
  refine ev_ifne 434 449 d_lw_law_434 (fun _ => ?_) (fun c0 => ?_)
  · refine ev_goto 449 1450 d_lw_law_449 ?_
    exact (lw_end kk (Nat.le_refl _) (Nat.le_refl _) g2)
  · refine ev_aload_3 437 d_lw_law_437 ?_
    refine ev_iconst_0 438 d_lw_law_438 ?_
    refine ev_lald 439 ((mo_W mo_ci bm (ks 0) (ks 1) F9 B9).length + w1.length) 2 d_lw_law_439 at_e2 rfl (show vp_in (nI 0) 1 from vp_in_nI (by decide) (by decide)) ?_
    refine ev_iload_6 440 d_lw_law_440 ?_
    refine ev_i2l 442 d_lw_law_442 ?_
    refine ev_lcmp 443 d_lw_law_443 ?_
    refine ev_ifeq 444 449 d_lw_law_444 (fun _ => ?_) (fun c9 => absurd (by rw [show o' (0 : Int32).toNatClampNeg = x.toInt64 from g1 c0]; exact lg_self _) c9)
    refine ev_goto 449 1450 d_lw_law_449 ?_
    exact (lw_end kk (Nat.le_refl _) (Nat.le_refl _) g2)
set_option maxHeartbeats 4000000 in
set_option maxRecDepth 100000 in
theorem lc_function {l : Launch} {D : va_G} {tl : List (ClassId × FieldType)} {Z : (Nat → Prop) → State → Heap → Prop} {ks : Nat → ClassId} {hd : Nat → Nat} {ta tz b L : Nat} {xs : Nat → Int32} {E : ev_T} {cells slots n i : Nat} {K : List Nat} {am N : Nat → Nat} {S : gS} {F : Nat → Int32} {B : Nat → Nat → Int32} {bm : Nat → Nat} {oq : Nat} {o : Nat → Int64} (H : lw_H l Z hd ta tz b L xs) (hL : L ≤ 3072) (hn : n < 1000) (hi : i + 5 < L) (hc : cells + 32 ≤ 601024) (hs : slots + 512 ≤ 7293034) (hR : RX hd n K am N S F B) (kk : lw_K l D tl Z ks hd E b (am 0) bm oq i (cells + 32) (slots + 512) n) : EV (hc_π l D ks tl Z) lw_M E cells slots 452 (lw_lv b (am 0) (bm 60) oq i) [] (lw_Wd K am ks N S oq o bm F B) := by
  obtain ⟨hl, hzx, hZ, hNw, hAO, hST, hZ9, hDi, hnc, hzs⟩ := H
  have hK := hR.k0
  obtain ⟨Q, X, P, hM, hMo, hJ⟩ := jn_function (k := 21) (bm := bm) (ks := ks) (tl := tl) (D := D) hl hzx hZ hNw hAO ta tz hST hZ9 hDi (by decide) hn hR (xs (i + 1)) (xs (i + 2)) (xs (i + 3))
  refine ev_aload_1 452 d_lw_law_452 ?_
  refine ev_aload_0 453 d_lw_law_453 ?_
  refine ev_iload_4 454 d_lw_law_454 ?_
  refine ev_iconst_1 456 d_lw_law_456 ?_
  refine ev_iadd 457 d_lw_law_457 ?_
  refine ev_topi (nI (i + 1)) (nI_add i 1) ?_
  refine ev_sld 458 d_lw_law_458 hzs (vp_in_nI (by omega) (by omega)) ?_
  refine ev_topi (xs (i + 1)) (by rw [nI_clamp (by omega)]) ?_
  refine ev_aload_0 459 d_lw_law_459 ?_
  refine ev_iload_4 460 d_lw_law_460 ?_
  refine ev_iconst_2 462 d_lw_law_462 ?_
  refine ev_iadd 463 d_lw_law_463 ?_
  refine ev_topi (nI (i + 2)) (nI_add i 2) ?_
  refine ev_sld 464 d_lw_law_464 hzs (vp_in_nI (by omega) (by omega)) ?_
  refine ev_topi (xs (i + 2)) (by rw [nI_clamp (by omega)]) ?_
  refine ev_aload_0 465 d_lw_law_465 ?_
  refine ev_iload_4 466 d_lw_law_466 ?_
  refine ev_iconst_3 468 d_lw_law_468 ?_
  refine ev_iadd 469 d_lw_law_469 ?_
  refine ev_topi (nI (i + 3)) (nI_add i 3) ?_
  refine ev_sld 470 d_lw_law_470 hzs (vp_in_nI (by omega) (by omega)) ?_
  refine ev_topi (xs (i + 3)) (by rw [nI_clamp (by omega)]) ?_
  refine ev_aload_3 471 d_lw_law_471 ?_
  refine ev_callSW (mc := 1) (ms := 6) 472 [.ref (am 0), .int (xs (i + 1)), .int (xs (i + 2)), .int (xs (i + 3)), .ref oq] [] d_lw_law_472 hZ ks_function ⟨rfl, rfl, ⟨by decide, by decide⟩, Nat.le_trans (Nat.add_le_add_left (by decide) _) hc, Nat.le_trans (Nat.add_le_add_left (by decide) _) hs⟩ (mt_frame hZ (hw_function hZ hnc (xs (i + 1)) (xs (i + 2)) (xs (i + 3)) hK hM (fun r w hq => (hJ.1 r w hq).imp (fun _ h => h.1)) (fun E w hx => (hJ.2 E w hx).imp (fun _ h => h.1))) (mo_W mo_ci bm (ks 0) (ks 1) F B)) (fun r w hw => ?_)
  obtain ⟨w2, rfl, hw⟩ := hw
  refine ev_wd (k := cells + 32) (n := slots + 512) (Nat.add_le_add_left (by decide) _) (Nat.add_le_add_left (by decide) _) ?_
  obtain ⟨kc, w1, o', rfl, rfl, hP⟩ := lw_join Int32.toInt64 cdu_function hJ hw
  refine ev_eq (st' := [.int kc]) ?_
  refine ev_istore_5 475 d_lw_law_475 ?_ (hn := by exact Nat.le_of_ble_eq_true rfl)
  refine ev_swap ?_
  refine ev_aload_2 477 d_lw_law_477 ?_
  refine ev_aload_0 478 d_lw_law_478 ?_
  refine ev_iload_4 479 d_lw_law_479 ?_
  refine ev_iconst_1 481 d_lw_law_481 ?_
  refine ev_iadd 482 d_lw_law_482 ?_
  refine ev_topi (nI (i + 1)) (nI_add i 1) ?_
  refine ev_sld 483 d_lw_law_483 hzs (vp_in_nI (by omega) (by omega)) ?_
  refine ev_topi (xs (i + 1)) (by rw [nI_clamp (by omega)]) ?_
  refine ev_aload_0 484 d_lw_law_484 ?_
  refine ev_iload_4 485 d_lw_law_485 ?_
  refine ev_iconst_2 487 d_lw_law_487 ?_
  refine ev_iadd 488 d_lw_law_488 ?_
  refine ev_topi (nI (i + 2)) (nI_add i 2) ?_
  refine ev_sld 489 d_lw_law_489 hzs (vp_in_nI (by omega) (by omega)) ?_
  refine ev_topi (xs (i + 2)) (by rw [nI_clamp (by omega)]) ?_
  refine ev_aload_0 490 d_lw_law_490 ?_
  refine ev_iload_4 491 d_lw_law_491 ?_
  refine ev_iconst_3 493 d_lw_law_493 ?_
  refine ev_iadd 494 d_lw_law_494 ?_
  refine ev_topi (nI (i + 3)) (nI_add i 3) ?_
  refine ev_sld 495 d_lw_law_495 hzs (vp_in_nI (by omega) (by omega)) ?_
  refine ev_topi (xs (i + 3)) (by rw [nI_clamp (by omega)]) ?_
  refine ev_callV (mc := 0) (ms := 0) (ci := 9) 496 0 [.int (xs (i + 1)), .int (xs (i + 2)), .int (xs (i + 3))] [] d_lw_law_496 hZ km_function (kM9 hc hs (by decide)) (at_l mo_at0) rfl (mt_frame hZ hMo (w1 ++ [lw_o ks oq o'])) (fun r w hw => ?_)
  obtain ⟨w3, rfl, x, F1, B1, rfl, rfl, hp⟩ := hw
  obtain ⟨g0, g1, g2⟩ := hP x F1 B1 hp
  refine ev_eq (st' := [.int x]) ?_
  refine ev_istore_6 499 d_lw_law_499 ?_ (hn := by exact Nat.le_of_ble_eq_true rfl)
  refine ev_aload_2 501 d_lw_law_501 ?_
  refine ev_callV (mc := 0) (ms := 0) (ci := 9) 502 0 [] [] d_lw_law_502 hZ km_thrown (kM9 hc hs (by decide)) (at_l mo_at0) rfl (mt_frame hZ (mt_thrown hZ) (w1 ++ [lw_o ks oq o'])) (fun r w hw => ?_)
  obtain ⟨w3, rfl, x9, F9, B9, rfl, rfl, rfl, e9, f9⟩ := hw
  subst e9
  subst f9
  refine ev_eq (st' := [.int (F9 0)]) ?_
  refine ev_iload_5 505 d_lw_law_505 ?_
  refine ev_icmpeq 507 512 d_lw_law_507 (fun _ => ?_) (fun c9 => absurd g0 c9)
  refine ev_iload_5 512 d_lw_law_512 ?_
  refine ev_ifne 514 529 d_lw_law_514 (fun _ => ?_) (fun c0 => ?_)
  · refine ev_goto 529 1450 d_lw_law_529 ?_
    exact (lw_end kk (Nat.le_refl _) (Nat.le_refl _) g2)
  · refine ev_aload_3 517 d_lw_law_517 ?_
    refine ev_iconst_0 518 d_lw_law_518 ?_
    refine ev_lald 519 ((mo_W mo_ci bm (ks 0) (ks 1) F9 B9).length + w1.length) 2 d_lw_law_519 at_e2 rfl (show vp_in (nI 0) 1 from vp_in_nI (by decide) (by decide)) ?_
    refine ev_iload_6 520 d_lw_law_520 ?_
    refine ev_i2l 522 d_lw_law_522 ?_
    refine ev_lcmp 523 d_lw_law_523 ?_
    refine ev_ifeq 524 529 d_lw_law_524 (fun _ => ?_) (fun c9 => absurd (by rw [show o' (0 : Int32).toNatClampNeg = x.toInt64 from g1 c0]; exact lg_self _) c9)
    refine ev_goto 529 1450 d_lw_law_529 ?_
    exact (lw_end kk (Nat.le_refl _) (Nat.le_refl _) g2)
set_option maxHeartbeats 4000000 in
set_option maxRecDepth 100000 in
theorem lc_write {l : Launch} {D : va_G} {tl : List (ClassId × FieldType)} {Z : (Nat → Prop) → State → Heap → Prop} {ks : Nat → ClassId} {hd : Nat → Nat} {ta tz b L : Nat} {xs : Nat → Int32} {E : ev_T} {cells slots n i : Nat} {K : List Nat} {am N : Nat → Nat} {S : gS} {F : Nat → Int32} {B : Nat → Nat → Int32} {bm : Nat → Nat} {oq : Nat} {o : Nat → Int64} (H : lw_H l Z hd ta tz b L xs) (hL : L ≤ 3072) (hn : n < 1000) (hi : i + 5 < L) (hc : cells + 32 ≤ 601024) (hs : slots + 512 ≤ 7293034) (hR : RX hd n K am N S F B) (kk : lw_K l D tl Z ks hd E b (am 0) bm oq i (cells + 32) (slots + 512) n) : EV (hc_π l D ks tl Z) lw_M E cells slots 532 (lw_lv b (am 0) (bm 60) oq i) [] (lw_Wd K am ks N S oq o bm F B) := by
  obtain ⟨hl, hzx, hZ, hNw, hAO, hST, hZ9, hDi, hnc, hzs⟩ := H
  have hK := hR.k0
  obtain ⟨Q, X, P, hM, hMo, hJ⟩ := jn_write (k := 21) (bm := bm) (ks := ks) (tl := tl) (D := D) hl hzx hZ hNw hAO ta tz hST hZ9 hDi (by decide) hn hR (xs (i + 1)) (xs (i + 2)) (xs (i + 3)) ((xs (i + 4)).toInt64 <<< ((32 : Int32).toInt64 &&& 63) ||| (xs (i + 5)).toInt64 &&& 4294967295)
  refine ev_eq (ws' := gw K am ks N S ++ ([lw_o ks oq o] ++ mo_W mo_ci bm (ks 0) (ks 1) F B)) ?_ (h3 := List.append_assoc _ _ _)
  refine ev_aload_1 532 d_lw_law_532 ?_
  refine ev_aload_0 533 d_lw_law_533 ?_
  refine ev_iload_4 534 d_lw_law_534 ?_
  refine ev_iconst_1 536 d_lw_law_536 ?_
  refine ev_iadd 537 d_lw_law_537 ?_
  refine ev_topi (nI (i + 1)) (nI_add i 1) ?_
  refine ev_sld 538 d_lw_law_538 hzs (vp_in_nI (by omega) (by omega)) ?_
  refine ev_topi (xs (i + 1)) (by rw [nI_clamp (by omega)]) ?_
  refine ev_aload_0 539 d_lw_law_539 ?_
  refine ev_iload_4 540 d_lw_law_540 ?_
  refine ev_iconst_2 542 d_lw_law_542 ?_
  refine ev_iadd 543 d_lw_law_543 ?_
  refine ev_topi (nI (i + 2)) (nI_add i 2) ?_
  refine ev_sld 544 d_lw_law_544 hzs (vp_in_nI (by omega) (by omega)) ?_
  refine ev_topi (xs (i + 2)) (by rw [nI_clamp (by omega)]) ?_
  refine ev_aload_0 545 d_lw_law_545 ?_
  refine ev_iload_4 546 d_lw_law_546 ?_
  refine ev_iconst_3 548 d_lw_law_548 ?_
  refine ev_iadd 549 d_lw_law_549 ?_
  refine ev_topi (nI (i + 3)) (nI_add i 3) ?_
  refine ev_sld 550 d_lw_law_550 hzs (vp_in_nI (by omega) (by omega)) ?_
  refine ev_topi (xs (i + 3)) (by rw [nI_clamp (by omega)]) ?_
  refine ev_aload_0 551 d_lw_law_551 ?_
  refine ev_iload_4 552 d_lw_law_552 ?_
  refine ev_iconst_4 554 d_lw_law_554 ?_
  refine ev_iadd 555 d_lw_law_555 ?_
  refine ev_topi (nI (i + 4)) (nI_add i 4) ?_
  refine ev_sld 556 d_lw_law_556 hzs (vp_in_nI (by omega) (by omega)) ?_
  refine ev_topi (xs (i + 4)) (by rw [nI_clamp (by omega)]) ?_
  refine ev_i2l 557 d_lw_law_557 ?_
  refine ev_bipush (32) 558 d_lw_law_558 (by decide) ?_
  refine ev_lshl 560 d_lw_law_560 ?_
  refine ev_aload_0 561 d_lw_law_561 ?_
  refine ev_iload_4 562 d_lw_law_562 ?_
  refine ev_iconst_5 564 d_lw_law_564 ?_
  refine ev_iadd 565 d_lw_law_565 ?_
  refine ev_topi (nI (i + 5)) (nI_add i 5) ?_
  refine ev_sld 566 d_lw_law_566 hzs (vp_in_nI (by omega) (by omega)) ?_
  refine ev_topi (xs (i + 5)) (by rw [nI_clamp (by omega)]) ?_
  refine ev_i2l 567 d_lw_law_567 ?_
  refine ev_ldc2 4294967295 568 d_lw_law_568 (li_w0 (i := 10) rfl) ?_
  refine ev_land 571 d_lw_law_571 ?_
  refine ev_lor 572 d_lw_law_572 ?_
  refine ev_callSW (mc := 1) (ms := 6) 573 [.ref (am 0), .int (xs (i + 1)), .int (xs (i + 2)), .int (xs (i + 3)), .long ((xs (i + 4)).toInt64 <<< ((32 : Int32).toInt64 &&& 63) ||| (xs (i + 5)).toInt64 &&& 4294967295)] [] d_lw_law_573 hZ ks_write ⟨rfl, rfl, ⟨by decide, by decide⟩, Nat.le_trans (Nat.add_le_add_left (by decide) _) hc, Nat.le_trans (Nat.add_le_add_left (by decide) _) hs⟩ (mt_frame hZ (hw_write hZ hnc (xs (i + 1)) (xs (i + 2)) (xs (i + 3)) ((xs (i + 4)).toInt64 <<< ((32 : Int32).toInt64 &&& 63) ||| (xs (i + 5)).toInt64 &&& 4294967295) hK hM (fun r w hq => (hJ.1 r w hq).1) (fun E w hx => (hJ.2 E w hx).imp (fun _ h => h.1))) ([lw_o ks oq o] ++ mo_W mo_ci bm (ks 0) (ks 1) F B)) (fun r w hw => ?_)
  obtain ⟨w2, rfl, hw⟩ := hw
  refine ev_wd (k := cells + 32) (n := slots + 512) (Nat.add_le_add_left (by decide) _) (Nat.add_le_add_left (by decide) _) ?_
  obtain ⟨kc, rfl, hP⟩ := lw_joinV cdu_write hJ hw
  refine ev_eq (st' := [.int kc]) (ws' := (w2 ++ [lw_o ks oq o]) ++ mo_W mo_ci bm (ks 0) (ks 1) F B) ?_ (h3 := (List.append_assoc _ _ _).symm)
  refine ev_istore_5 576 d_lw_law_576 ?_ (hn := by exact Nat.le_of_ble_eq_true rfl)
  refine ev_swap ?_
  refine ev_aload_2 578 d_lw_law_578 ?_
  refine ev_aload_0 579 d_lw_law_579 ?_
  refine ev_iload_4 580 d_lw_law_580 ?_
  refine ev_iconst_1 582 d_lw_law_582 ?_
  refine ev_iadd 583 d_lw_law_583 ?_
  refine ev_topi (nI (i + 1)) (nI_add i 1) ?_
  refine ev_sld 584 d_lw_law_584 hzs (vp_in_nI (by omega) (by omega)) ?_
  refine ev_topi (xs (i + 1)) (by rw [nI_clamp (by omega)]) ?_
  refine ev_aload_0 585 d_lw_law_585 ?_
  refine ev_iload_4 586 d_lw_law_586 ?_
  refine ev_iconst_2 588 d_lw_law_588 ?_
  refine ev_iadd 589 d_lw_law_589 ?_
  refine ev_topi (nI (i + 2)) (nI_add i 2) ?_
  refine ev_sld 590 d_lw_law_590 hzs (vp_in_nI (by omega) (by omega)) ?_
  refine ev_topi (xs (i + 2)) (by rw [nI_clamp (by omega)]) ?_
  refine ev_aload_0 591 d_lw_law_591 ?_
  refine ev_iload_4 592 d_lw_law_592 ?_
  refine ev_iconst_3 594 d_lw_law_594 ?_
  refine ev_iadd 595 d_lw_law_595 ?_
  refine ev_topi (nI (i + 3)) (nI_add i 3) ?_
  refine ev_sld 596 d_lw_law_596 hzs (vp_in_nI (by omega) (by omega)) ?_
  refine ev_topi (xs (i + 3)) (by rw [nI_clamp (by omega)]) ?_
  refine ev_aload_0 597 d_lw_law_597 ?_
  refine ev_iload_4 598 d_lw_law_598 ?_
  refine ev_iconst_4 600 d_lw_law_600 ?_
  refine ev_iadd 601 d_lw_law_601 ?_
  refine ev_topi (nI (i + 4)) (nI_add i 4) ?_
  refine ev_sld 602 d_lw_law_602 hzs (vp_in_nI (by omega) (by omega)) ?_
  refine ev_topi (xs (i + 4)) (by rw [nI_clamp (by omega)]) ?_
  refine ev_i2l 603 d_lw_law_603 ?_
  refine ev_bipush (32) 604 d_lw_law_604 (by decide) ?_
  refine ev_lshl 606 d_lw_law_606 ?_
  refine ev_aload_0 607 d_lw_law_607 ?_
  refine ev_iload_4 608 d_lw_law_608 ?_
  refine ev_iconst_5 610 d_lw_law_610 ?_
  refine ev_iadd 611 d_lw_law_611 ?_
  refine ev_topi (nI (i + 5)) (nI_add i 5) ?_
  refine ev_sld 612 d_lw_law_612 hzs (vp_in_nI (by omega) (by omega)) ?_
  refine ev_topi (xs (i + 5)) (by rw [nI_clamp (by omega)]) ?_
  refine ev_i2l 613 d_lw_law_613 ?_
  refine ev_ldc2 4294967295 614 d_lw_law_614 (li_w0 (i := 10) rfl) ?_
  refine ev_land 617 d_lw_law_617 ?_
  refine ev_lor 618 d_lw_law_618 ?_
  refine ev_callV (mc := 0) (ms := 0) (ci := 9) 619 0 [.int (xs (i + 1)), .int (xs (i + 2)), .int (xs (i + 3)), .long ((xs (i + 4)).toInt64 <<< ((32 : Int32).toInt64 &&& 63) ||| (xs (i + 5)).toInt64 &&& 4294967295)] [] d_lw_law_619 hZ km_write (kM9 hc hs (by decide)) (at_l mo_at0) rfl (mt_frame hZ hMo (w2 ++ [lw_o ks oq o])) (fun r w hw => ?_)
  obtain ⟨w3, rfl, F1, B1, rfl, rfl, hp⟩ := hw
  obtain ⟨g0, g2⟩ := hP F1 B1 hp
  refine ev_eq (st' := []) ?_
  refine ev_aload_2 622 d_lw_law_622 ?_
  refine ev_callV (mc := 0) (ms := 0) (ci := 9) 623 0 [] [] d_lw_law_623 hZ km_thrown (kM9 hc hs (by decide)) (at_l mo_at0) rfl (mt_frame hZ (mt_thrown hZ) (w2 ++ [lw_o ks oq o])) (fun r w hw => ?_)
  obtain ⟨w3, rfl, x9, F9, B9, rfl, rfl, rfl, e9, f9⟩ := hw
  subst e9
  subst f9
  refine ev_eq (st' := [.int (F9 0)]) ?_
  refine ev_iload_5 626 d_lw_law_626 ?_
  refine ev_icmpeq 628 633 d_lw_law_628 (fun _ => ?_) (fun c9 => absurd g0 c9)
  refine ev_goto 633 1450 d_lw_law_633 ?_
  exact (lw_end kk (Nat.le_refl _) (Nat.le_refl _) g2)
set_option maxHeartbeats 4000000 in
set_option maxRecDepth 100000 in
theorem lc_read {l : Launch} {D : va_G} {tl : List (ClassId × FieldType)} {Z : (Nat → Prop) → State → Heap → Prop} {ks : Nat → ClassId} {hd : Nat → Nat} {ta tz b L : Nat} {xs : Nat → Int32} {E : ev_T} {cells slots n i : Nat} {K : List Nat} {am N : Nat → Nat} {S : gS} {F : Nat → Int32} {B : Nat → Nat → Int32} {bm : Nat → Nat} {oq : Nat} {o : Nat → Int64} (H : lw_H l Z hd ta tz b L xs) (hL : L ≤ 3072) (hn : n < 1000) (hi : i + 5 < L) (hc : cells + 32 ≤ 601024) (hs : slots + 512 ≤ 7293034) (hR : RX hd n K am N S F B) (kk : lw_K l D tl Z ks hd E b (am 0) bm oq i (cells + 32) (slots + 512) n) : EV (hc_π l D ks tl Z) lw_M E cells slots 636 (lw_lv b (am 0) (bm 60) oq i) [] (lw_Wd K am ks N S oq o bm F B) := by
  obtain ⟨hl, hzx, hZ, hNw, hAO, hST, hZ9, hDi, hnc, hzs⟩ := H
  have hK := hR.k0
  obtain ⟨Q, X, P, hM, hMo, hJ⟩ := jn_read (k := 21) (bm := bm) (ks := ks) (tl := tl) (D := D) hl hzx hZ hNw hAO ta tz hST hZ9 hDi (by decide) hn hR (xs (i + 1)) (xs (i + 2))
  refine ev_aload_1 636 d_lw_law_636 ?_
  refine ev_aload_0 637 d_lw_law_637 ?_
  refine ev_iload_4 638 d_lw_law_638 ?_
  refine ev_iconst_1 640 d_lw_law_640 ?_
  refine ev_iadd 641 d_lw_law_641 ?_
  refine ev_topi (nI (i + 1)) (nI_add i 1) ?_
  refine ev_sld 642 d_lw_law_642 hzs (vp_in_nI (by omega) (by omega)) ?_
  refine ev_topi (xs (i + 1)) (by rw [nI_clamp (by omega)]) ?_
  refine ev_aload_0 643 d_lw_law_643 ?_
  refine ev_iload_4 644 d_lw_law_644 ?_
  refine ev_iconst_2 646 d_lw_law_646 ?_
  refine ev_iadd 647 d_lw_law_647 ?_
  refine ev_topi (nI (i + 2)) (nI_add i 2) ?_
  refine ev_sld 648 d_lw_law_648 hzs (vp_in_nI (by omega) (by omega)) ?_
  refine ev_topi (xs (i + 2)) (by rw [nI_clamp (by omega)]) ?_
  refine ev_aload_3 649 d_lw_law_649 ?_
  refine ev_callSW (mc := 1) (ms := 6) 650 [.ref (am 0), .int (xs (i + 1)), .int (xs (i + 2)), .ref oq] [] d_lw_law_650 hZ ks_read ⟨rfl, rfl, ⟨by decide, by decide⟩, Nat.le_trans (Nat.add_le_add_left (by decide) _) hc, Nat.le_trans (Nat.add_le_add_left (by decide) _) hs⟩ (mt_frame hZ (hw_read hZ hnc (xs (i + 1)) (xs (i + 2)) hK hM (fun r w hq => (hJ.1 r w hq).imp (fun _ h => h.1)) (fun E w hx => (hJ.2 E w hx).imp (fun _ h => h.1))) (mo_W mo_ci bm (ks 0) (ks 1) F B)) (fun r w hw => ?_)
  obtain ⟨w2, rfl, hw⟩ := hw
  refine ev_wd (k := cells + 32) (n := slots + 512) (Nat.add_le_add_left (by decide) _) (Nat.add_le_add_left (by decide) _) ?_
  obtain ⟨kc, w1, o', rfl, rfl, hP⟩ := lw_join Int32.toInt64 cdu_read hJ hw
  refine ev_eq (st' := [.int kc]) ?_
  refine ev_istore_5 653 d_lw_law_653 ?_ (hn := by exact Nat.le_of_ble_eq_true rfl)
  refine ev_swap ?_
  refine ev_aload_2 655 d_lw_law_655 ?_
  refine ev_aload_0 656 d_lw_law_656 ?_
  refine ev_iload_4 657 d_lw_law_657 ?_
  refine ev_iconst_1 659 d_lw_law_659 ?_
  refine ev_iadd 660 d_lw_law_660 ?_
  refine ev_topi (nI (i + 1)) (nI_add i 1) ?_
  refine ev_sld 661 d_lw_law_661 hzs (vp_in_nI (by omega) (by omega)) ?_
  refine ev_topi (xs (i + 1)) (by rw [nI_clamp (by omega)]) ?_
  refine ev_aload_0 662 d_lw_law_662 ?_
  refine ev_iload_4 663 d_lw_law_663 ?_
  refine ev_iconst_2 665 d_lw_law_665 ?_
  refine ev_iadd 666 d_lw_law_666 ?_
  refine ev_topi (nI (i + 2)) (nI_add i 2) ?_
  refine ev_sld 667 d_lw_law_667 hzs (vp_in_nI (by omega) (by omega)) ?_
  refine ev_topi (xs (i + 2)) (by rw [nI_clamp (by omega)]) ?_
  refine ev_callV (mc := 0) (ms := 0) (ci := 9) 668 0 [.int (xs (i + 1)), .int (xs (i + 2))] [] d_lw_law_668 hZ km_read (kM9 hc hs (by decide)) (at_l mo_at0) rfl (mt_frame hZ hMo (w1 ++ [lw_o ks oq o'])) (fun r w hw => ?_)
  obtain ⟨w3, rfl, x, F1, B1, rfl, rfl, hp⟩ := hw
  obtain ⟨g0, g1, g2⟩ := hP x F1 B1 hp
  refine ev_eq (st' := [.int x]) ?_
  refine ev_istore_6 671 d_lw_law_671 ?_ (hn := by exact Nat.le_of_ble_eq_true rfl)
  refine ev_aload_2 673 d_lw_law_673 ?_
  refine ev_callV (mc := 0) (ms := 0) (ci := 9) 674 0 [] [] d_lw_law_674 hZ km_thrown (kM9 hc hs (by decide)) (at_l mo_at0) rfl (mt_frame hZ (mt_thrown hZ) (w1 ++ [lw_o ks oq o'])) (fun r w hw => ?_)
  obtain ⟨w3, rfl, x9, F9, B9, rfl, rfl, rfl, e9, f9⟩ := hw
  subst e9
  subst f9
  refine ev_eq (st' := [.int (F9 0)]) ?_
  refine ev_iload_5 677 d_lw_law_677 ?_
  refine ev_icmpeq 679 684 d_lw_law_679 (fun _ => ?_) (fun c9 => absurd g0 c9)
  refine ev_iload_5 684 d_lw_law_684 ?_
  refine ev_ifne 686 701 d_lw_law_686 (fun _ => ?_) (fun c0 => ?_)
  · refine ev_goto 701 1450 d_lw_law_701 ?_
    exact (lw_end kk (Nat.le_refl _) (Nat.le_refl _) g2)
  · refine ev_aload_3 689 d_lw_law_689 ?_
    refine ev_iconst_0 690 d_lw_law_690 ?_
    refine ev_lald 691 ((mo_W mo_ci bm (ks 0) (ks 1) F9 B9).length + w1.length) 2 d_lw_law_691 at_e2 rfl (show vp_in (nI 0) 1 from vp_in_nI (by decide) (by decide)) ?_
    refine ev_iload_6 692 d_lw_law_692 ?_
    refine ev_i2l 694 d_lw_law_694 ?_
    refine ev_lcmp 695 d_lw_law_695 ?_
    refine ev_ifeq 696 701 d_lw_law_696 (fun _ => ?_) (fun c9 => absurd (by rw [show o' (0 : Int32).toNatClampNeg = x.toInt64 from g1 c0]; exact lg_self _) c9)
    refine ev_goto 701 1450 d_lw_law_701 ?_
    exact (lw_end kk (Nat.le_refl _) (Nat.le_refl _) g2)
set_option maxHeartbeats 4000000 in
set_option maxRecDepth 100000 in
theorem lc_enter {l : Launch} {D : va_G} {tl : List (ClassId × FieldType)} {Z : (Nat → Prop) → State → Heap → Prop} {ks : Nat → ClassId} {hd : Nat → Nat} {ta tz b L : Nat} {xs : Nat → Int32} {E : ev_T} {cells slots n i : Nat} {K : List Nat} {am N : Nat → Nat} {S : gS} {F : Nat → Int32} {B : Nat → Nat → Int32} {bm : Nat → Nat} {oq : Nat} {o : Nat → Int64} (H : lw_H l Z hd ta tz b L xs) (hL : L ≤ 3072) (hn : n < 1000) (hi : i + 5 < L) (hc : cells + 32 ≤ 601024) (hs : slots + 512 ≤ 7293034) (hR : RX hd n K am N S F B) (kk : lw_K l D tl Z ks hd E b (am 0) bm oq i (cells + 32) (slots + 512) n) : EV (hc_π l D ks tl Z) lw_M E cells slots 704 (lw_lv b (am 0) (bm 60) oq i) [] (lw_Wd K am ks N S oq o bm F B) := by
  obtain ⟨hl, hzx, hZ, hNw, hAO, hST, hZ9, hDi, hnc, hzs⟩ := H
  have hK := hR.k0
  obtain ⟨Q, X, P, hM, hMo, hJ⟩ := jn_enter (k := 21) (bm := bm) (ks := ks) (tl := tl) (D := D) hl hzx hZ hNw hAO ta tz hST hZ9 hDi (by decide) hn hR (xs (i + 1))
  refine ev_eq (ws' := gw K am ks N S ++ ([lw_o ks oq o] ++ mo_W mo_ci bm (ks 0) (ks 1) F B)) ?_ (h3 := List.append_assoc _ _ _)
  refine ev_aload_1 704 d_lw_law_704 ?_
  refine ev_aload_0 705 d_lw_law_705 ?_
  refine ev_iload_4 706 d_lw_law_706 ?_
  refine ev_iconst_1 708 d_lw_law_708 ?_
  refine ev_iadd 709 d_lw_law_709 ?_
  refine ev_topi (nI (i + 1)) (nI_add i 1) ?_
  refine ev_sld 710 d_lw_law_710 hzs (vp_in_nI (by omega) (by omega)) ?_
  refine ev_topi (xs (i + 1)) (by rw [nI_clamp (by omega)]) ?_
  refine ev_callSW (mc := 1) (ms := 6) 711 [.ref (am 0), .int (xs (i + 1))] [] d_lw_law_711 hZ ks_enter ⟨rfl, rfl, ⟨by decide, by decide⟩, Nat.le_trans (Nat.add_le_add_left (by decide) _) hc, Nat.le_trans (Nat.add_le_add_left (by decide) _) hs⟩ (mt_frame hZ (hw_enter hZ hnc (xs (i + 1)) hK hM (fun r w hq => (hJ.1 r w hq).1) (fun E w hx => (hJ.2 E w hx).imp (fun _ h => h.1))) ([lw_o ks oq o] ++ mo_W mo_ci bm (ks 0) (ks 1) F B)) (fun r w hw => ?_)
  obtain ⟨w2, rfl, hw⟩ := hw
  refine ev_wd (k := cells + 32) (n := slots + 512) (Nat.add_le_add_left (by decide) _) (Nat.add_le_add_left (by decide) _) ?_
  obtain ⟨kc, rfl, hP⟩ := lw_joinV cdu_enter hJ hw
  refine ev_eq (st' := [.int kc]) (ws' := (w2 ++ [lw_o ks oq o]) ++ mo_W mo_ci bm (ks 0) (ks 1) F B) ?_ (h3 := (List.append_assoc _ _ _).symm)
  refine ev_istore_5 714 d_lw_law_714 ?_ (hn := by exact Nat.le_of_ble_eq_true rfl)
  refine ev_swap ?_
  refine ev_aload_2 716 d_lw_law_716 ?_
  refine ev_aload_0 717 d_lw_law_717 ?_
  refine ev_iload_4 718 d_lw_law_718 ?_
  refine ev_iconst_1 720 d_lw_law_720 ?_
  refine ev_iadd 721 d_lw_law_721 ?_
  refine ev_topi (nI (i + 1)) (nI_add i 1) ?_
  refine ev_sld 722 d_lw_law_722 hzs (vp_in_nI (by omega) (by omega)) ?_
  refine ev_topi (xs (i + 1)) (by rw [nI_clamp (by omega)]) ?_
  refine ev_callV (mc := 0) (ms := 0) (ci := 9) 723 0 [.int (xs (i + 1))] [] d_lw_law_723 hZ km_enter (kM9 hc hs (by decide)) (at_l mo_at0) rfl (mt_frame hZ hMo (w2 ++ [lw_o ks oq o])) (fun r w hw => ?_)
  obtain ⟨w3, rfl, F1, B1, rfl, rfl, hp⟩ := hw
  obtain ⟨g0, g2⟩ := hP F1 B1 hp
  refine ev_eq (st' := []) ?_
  refine ev_aload_2 726 d_lw_law_726 ?_
  refine ev_callV (mc := 0) (ms := 0) (ci := 9) 727 0 [] [] d_lw_law_727 hZ km_thrown (kM9 hc hs (by decide)) (at_l mo_at0) rfl (mt_frame hZ (mt_thrown hZ) (w2 ++ [lw_o ks oq o])) (fun r w hw => ?_)
  obtain ⟨w3, rfl, x9, F9, B9, rfl, rfl, rfl, e9, f9⟩ := hw
  subst e9
  subst f9
  refine ev_eq (st' := [.int (F9 0)]) ?_
  refine ev_iload_5 730 d_lw_law_730 ?_
  refine ev_icmpeq 732 737 d_lw_law_732 (fun _ => ?_) (fun c9 => absurd g0 c9)
  refine ev_goto 737 1450 d_lw_law_737 ?_
  exact (lw_end kk (Nat.le_refl _) (Nat.le_refl _) g2)
set_option maxHeartbeats 4000000 in
set_option maxRecDepth 100000 in
theorem lc_leave {l : Launch} {D : va_G} {tl : List (ClassId × FieldType)} {Z : (Nat → Prop) → State → Heap → Prop} {ks : Nat → ClassId} {hd : Nat → Nat} {ta tz b L : Nat} {xs : Nat → Int32} {E : ev_T} {cells slots n i : Nat} {K : List Nat} {am N : Nat → Nat} {S : gS} {F : Nat → Int32} {B : Nat → Nat → Int32} {bm : Nat → Nat} {oq : Nat} {o : Nat → Int64} (H : lw_H l Z hd ta tz b L xs) (hL : L ≤ 3072) (hn : n < 1000) (hi : i + 5 < L) (hc : cells + 32 ≤ 601024) (hs : slots + 512 ≤ 7293034) (hR : RX hd n K am N S F B) (kk : lw_K l D tl Z ks hd E b (am 0) bm oq i (cells + 32) (slots + 512) n) : EV (hc_π l D ks tl Z) lw_M E cells slots 740 (lw_lv b (am 0) (bm 60) oq i) [] (lw_Wd K am ks N S oq o bm F B) := by
  obtain ⟨hl, hzx, hZ, hNw, hAO, hST, hZ9, hDi, hnc, hzs⟩ := H
  have hK := hR.k0
  obtain ⟨Q, X, P, hM, hMo, hJ⟩ := jn_leave (k := 21) (bm := bm) (ks := ks) (tl := tl) (D := D) hl hzx hZ hNw hAO ta tz hST hZ9 hDi (by decide) hn hR 
  refine ev_eq (ws' := gw K am ks N S ++ ([lw_o ks oq o] ++ mo_W mo_ci bm (ks 0) (ks 1) F B)) ?_ (h3 := List.append_assoc _ _ _)
  refine ev_aload_1 740 d_lw_law_740 ?_
  refine ev_callSW (mc := 1) (ms := 6) 741 [.ref (am 0)] [] d_lw_law_741 hZ ks_leave ⟨rfl, rfl, ⟨by decide, by decide⟩, Nat.le_trans (Nat.add_le_add_left (by decide) _) hc, Nat.le_trans (Nat.add_le_add_left (by decide) _) hs⟩ (mt_frame hZ (hw_leave hZ hnc  hK hM (fun r w hq => (hJ.1 r w hq).1) (fun E w hx => (hJ.2 E w hx).imp (fun _ h => h.1))) ([lw_o ks oq o] ++ mo_W mo_ci bm (ks 0) (ks 1) F B)) (fun r w hw => ?_)
  obtain ⟨w2, rfl, hw⟩ := hw
  refine ev_wd (k := cells + 32) (n := slots + 512) (Nat.add_le_add_left (by decide) _) (Nat.add_le_add_left (by decide) _) ?_
  obtain ⟨kc, rfl, hP⟩ := lw_joinV cdu_leave hJ hw
  refine ev_eq (st' := [.int kc]) (ws' := (w2 ++ [lw_o ks oq o]) ++ mo_W mo_ci bm (ks 0) (ks 1) F B) ?_ (h3 := (List.append_assoc _ _ _).symm)
  refine ev_istore_5 744 d_lw_law_744 ?_ (hn := by exact Nat.le_of_ble_eq_true rfl)
  refine ev_swap ?_
  refine ev_aload_2 746 d_lw_law_746 ?_
  refine ev_callV (mc := 0) (ms := 0) (ci := 9) 747 0 [] [] d_lw_law_747 hZ km_leave (kM9 hc hs (by decide)) (at_l mo_at0) rfl (mt_frame hZ hMo (w2 ++ [lw_o ks oq o])) (fun r w hw => ?_)
  obtain ⟨w3, rfl, F1, B1, rfl, rfl, hp⟩ := hw
  obtain ⟨g0, g2⟩ := hP F1 B1 hp
  refine ev_eq (st' := []) ?_
  refine ev_aload_2 750 d_lw_law_750 ?_
  refine ev_callV (mc := 0) (ms := 0) (ci := 9) 751 0 [] [] d_lw_law_751 hZ km_thrown (kM9 hc hs (by decide)) (at_l mo_at0) rfl (mt_frame hZ (mt_thrown hZ) (w2 ++ [lw_o ks oq o])) (fun r w hw => ?_)
  obtain ⟨w3, rfl, x9, F9, B9, rfl, rfl, rfl, e9, f9⟩ := hw
  subst e9
  subst f9
  refine ev_eq (st' := [.int (F9 0)]) ?_
  refine ev_iload_5 754 d_lw_law_754 ?_
  refine ev_icmpeq 756 761 d_lw_law_756 (fun _ => ?_) (fun c9 => absurd g0 c9)
  refine ev_goto 761 1450 d_lw_law_761 ?_
  exact (lw_end kk (Nat.le_refl _) (Nat.le_refl _) g2)
set_option maxHeartbeats 4000000 in
set_option maxRecDepth 100000 in
theorem lc_make {l : Launch} {D : va_G} {tl : List (ClassId × FieldType)} {Z : (Nat → Prop) → State → Heap → Prop} {ks : Nat → ClassId} {hd : Nat → Nat} {ta tz b L : Nat} {xs : Nat → Int32} {E : ev_T} {cells slots n i : Nat} {K : List Nat} {am N : Nat → Nat} {S : gS} {F : Nat → Int32} {B : Nat → Nat → Int32} {bm : Nat → Nat} {oq : Nat} {o : Nat → Int64} (H : lw_H l Z hd ta tz b L xs) (hL : L ≤ 3072) (hn : n < 1000) (hi : i + 5 < L) (hc : cells + 32 ≤ 601024) (hs : slots + 512 ≤ 7293034) (hR : RX hd n K am N S F B) (kk : lw_K l D tl Z ks hd E b (am 0) bm oq i (cells + 32) (slots + 512) n) : EV (hc_π l D ks tl Z) lw_M E cells slots 764 (lw_lv b (am 0) (bm 60) oq i) [] (lw_Wd K am ks N S oq o bm F B) := by
  obtain ⟨hl, hzx, hZ, hNw, hAO, hST, hZ9, hDi, hnc, hzs⟩ := H
  have hK := hR.k0
  obtain ⟨Q, X, P, hM, hMo, hJ⟩ := jn_make (k := 21) (bm := bm) (ks := ks) (tl := tl) (D := D) hl hzx hZ hNw hAO ta tz hST hZ9 hDi (by decide) hn hR (xs (i + 1))
  refine ev_aload_1 764 d_lw_law_764 ?_
  refine ev_aload_0 765 d_lw_law_765 ?_
  refine ev_iload_4 766 d_lw_law_766 ?_
  refine ev_iconst_1 768 d_lw_law_768 ?_
  refine ev_iadd 769 d_lw_law_769 ?_
  refine ev_topi (nI (i + 1)) (nI_add i 1) ?_
  refine ev_sld 770 d_lw_law_770 hzs (vp_in_nI (by omega) (by omega)) ?_
  refine ev_topi (xs (i + 1)) (by rw [nI_clamp (by omega)]) ?_
  refine ev_aload_3 771 d_lw_law_771 ?_
  refine ev_callSW (mc := 1) (ms := 6) 772 [.ref (am 0), .int (xs (i + 1)), .ref oq] [] d_lw_law_772 hZ ks_make ⟨rfl, rfl, ⟨by decide, by decide⟩, Nat.le_trans (Nat.add_le_add_left (by decide) _) hc, Nat.le_trans (Nat.add_le_add_left (by decide) _) hs⟩ (mt_frame hZ (hw_make hZ hnc (xs (i + 1)) hK hM (fun r w hq => (hJ.1 r w hq).imp (fun _ h => h.1)) (fun E w hx => (hJ.2 E w hx).imp (fun _ h => h.1))) (mo_W mo_ci bm (ks 0) (ks 1) F B)) (fun r w hw => ?_)
  obtain ⟨w2, rfl, hw⟩ := hw
  refine ev_wd (k := cells + 32) (n := slots + 512) (Nat.add_le_add_left (by decide) _) (Nat.add_le_add_left (by decide) _) ?_
  obtain ⟨kc, w1, o', rfl, rfl, hP⟩ := lw_join Int32.toInt64 cdu_make hJ hw
  refine ev_eq (st' := [.int kc]) ?_
  refine ev_istore_5 775 d_lw_law_775 ?_ (hn := by exact Nat.le_of_ble_eq_true rfl)
  refine ev_swap ?_
  refine ev_aload_2 777 d_lw_law_777 ?_
  refine ev_aload_0 778 d_lw_law_778 ?_
  refine ev_iload_4 779 d_lw_law_779 ?_
  refine ev_iconst_1 781 d_lw_law_781 ?_
  refine ev_iadd 782 d_lw_law_782 ?_
  refine ev_topi (nI (i + 1)) (nI_add i 1) ?_
  refine ev_sld 783 d_lw_law_783 hzs (vp_in_nI (by omega) (by omega)) ?_
  refine ev_topi (xs (i + 1)) (by rw [nI_clamp (by omega)]) ?_
  refine ev_callV (mc := 0) (ms := 0) (ci := 9) 784 0 [.int (xs (i + 1))] [] d_lw_law_784 hZ km_make (kM9 hc hs (by decide)) (at_l mo_at0) rfl (mt_frame hZ hMo (w1 ++ [lw_o ks oq o'])) (fun r w hw => ?_)
  obtain ⟨w3, rfl, x, F1, B1, rfl, rfl, hp⟩ := hw
  obtain ⟨g0, g1, g2⟩ := hP x F1 B1 hp
  refine ev_eq (st' := [.int x]) ?_
  refine ev_istore_6 787 d_lw_law_787 ?_ (hn := by exact Nat.le_of_ble_eq_true rfl)
  refine ev_aload_2 789 d_lw_law_789 ?_
  refine ev_callV (mc := 0) (ms := 0) (ci := 9) 790 0 [] [] d_lw_law_790 hZ km_thrown (kM9 hc hs (by decide)) (at_l mo_at0) rfl (mt_frame hZ (mt_thrown hZ) (w1 ++ [lw_o ks oq o'])) (fun r w hw => ?_)
  obtain ⟨w3, rfl, x9, F9, B9, rfl, rfl, rfl, e9, f9⟩ := hw
  subst e9
  subst f9
  refine ev_eq (st' := [.int (F9 0)]) ?_
  refine ev_iload_5 793 d_lw_law_793 ?_
  refine ev_icmpeq 795 800 d_lw_law_795 (fun _ => ?_) (fun c9 => absurd g0 c9)
  refine ev_iload_5 800 d_lw_law_800 ?_
  refine ev_ifne 802 817 d_lw_law_802 (fun _ => ?_) (fun c0 => ?_)
  · refine ev_goto 817 1450 d_lw_law_817 ?_
    exact (lw_end kk (Nat.le_refl _) (Nat.le_refl _) g2)
  · refine ev_aload_3 805 d_lw_law_805 ?_
    refine ev_iconst_0 806 d_lw_law_806 ?_
    refine ev_lald 807 ((mo_W mo_ci bm (ks 0) (ks 1) F9 B9).length + w1.length) 2 d_lw_law_807 at_e2 rfl (show vp_in (nI 0) 1 from vp_in_nI (by decide) (by decide)) ?_
    refine ev_iload_6 808 d_lw_law_808 ?_
    refine ev_i2l 810 d_lw_law_810 ?_
    refine ev_lcmp 811 d_lw_law_811 ?_
    refine ev_ifeq 812 817 d_lw_law_812 (fun _ => ?_) (fun c9 => absurd (by rw [show o' (0 : Int32).toNatClampNeg = x.toInt64 from g1 c0]; exact lg_self _) c9)
    refine ev_goto 817 1450 d_lw_law_817 ?_
    exact (lw_end kk (Nat.le_refl _) (Nat.le_refl _) g2)
