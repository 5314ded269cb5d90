set_option maxHeartbeats 4000000 in
set_option maxRecDepth 100000 in
theorem ht_wt_writesVariant {l : Launch} {D : va_G} {tl : List (ClassId × FieldType)} {Z : (Nat → Prop) → State → Heap → Prop} {K : List Nat} {am : Nat → Nat} {ks : Nat → ClassId} {N : Nat → Nat} {S : gS} {k : Nat} (k0 : Nat) (u : Nat) (to : Nat) {Bs : Nat → Nat → Int32} {i J NT ni n : Nat} {ct dp : Nat → Nat} {pt : Nat → Nat → Nat} {sz al : Nat → Nat} (hd : Nat → Nat) (hZ : ev_Zok Z) (hNw : hc_ZN Z) (C : WC Bs i J NT ni n ct dp pt sz al) {d : Nat} (kI : Nat) (RI : ∀ (u a b to : Nat) (F : Nat → Int32) (B : Nat → Nat → Int32) (S : gS), is_t Bs i ct pt sz d u a b → b ≤ n → u < NT → wi_to B a = nI to → to ≤ 256 → WS K am N hd S Bs F B i J NT ni n ct pt sz a → MT (hc_π l D ks tl Z) (m_wt_writesItem (kI) 0 0) 0 0 [.ref (am 16), .ref (am (100 + 3 * u)), .int (nI to)] (gw K am ks N S) (WQ K am N hd ks S Bs i J NT ni n ct pt sz b (wl i J (b - a) a F B))) {F : Nat → Int32} {B : Nat → Nat → Int32} {k' b pp hp : Nat} (W : ww K am N S i J) (hT : TyR K am N S Bs NT ct pt) (hI : IR S Bs i NT n) (hn4 : S.1 16 4 = .int (nI (k0 + 1))) (hM : WM am hd S Bs B i J ni) (h0 : F 54 = 0) (hiv : wr_iv Bs NT sz J F (va_up (wi_t B k0 to) 13 (mo_cp (B 13) (256 * i + pp) (256 * J + to) 1)) (k0 + 1)) (h14 : B 14 J = nI hp) (hb6 : b < ct u) (hnum : S.2.2.2 12 k0 = lN b) (hpp : pp + 1 ≤ 256) (hXb : B 13 (256 * i + pp) = nI b) (hto1 : to + 1 ≤ 256) (h46 : Bs 46 (k0 + 1) = nI k0) (h47 : Bs 47 (k0 + 1) = Bs 9 (6 * u + b)) (pt9 : is_t Bs i ct pt sz d (pt u b) (k0 + 1) k') (hk' : k' ≤ n) (hu : u < NT) (hk10 : Bs 2 u = 10) (h44 : Bs 44 k0 = nI u) (hk0 : k0 < 200) (hk00 : 0 < k) (hk1 : 1 < k) (hkI : kI < k) : MT (hc_π l D ks tl Z) (m_wt_writesVariant k 0 0) 0 0 [.ref (am 16), .int (nI k0), .ref (am (100 + 3 * u)), .int (nI to)] (gw K am ks N S) (WQ K am N hd ks S Bs i J NT ni n ct pt sz k' (wl i J (k' - (k0 + 1)) (k0 + 1) F (va_up (wi_t B k0 to) 13 (mo_cp (B 13) (256 * i + pp) (256 * J + to) 1)))) := by
  refine mt_of pl_wt rfl (Nat.le_of_ble_eq_true rfl) (ev_eq (lv' := [some (.ref (am 16)), some (.int (nI k0)), some (.ref (am (100 + 3 * u))), some (.int (nI to)), none]) ?_)
  obtain ⟨⟨hin, hJn, hn6, hiJ⟩, h8, hW, hD, hS, hAl, hn200, hIt, hln⟩ := C
  obtain ⟨e7u, cu6, -, -⟩ := hW.2.1 u hu
  refine ev_aload_0 0 d_wt_writesVariant_0 ?_
  refine gw_get 1 16 2 d_wt_writesVariant_1 lk_wt_22 (W.1.2 16 (by decide) (by decide)) rfl (.ref (am 10)) W.2.2.1.2.2.1 ?_
  refine gw_get 4 10 1 d_wt_writesVariant_4 lk_wt_87 (W.1.2 10 (by decide) (by decide)) rfl (.ref (am 12)) W.2.2.2.1.2.1 ?_
  refine ev_iload_1 7 d_wt_writesVariant_7 ?_
  refine gw_lld (j := k0) 8 12 d_wt_writesVariant_8 (W.1.2 12 (by decide) (by decide)) rfl (by rw [W.2.1.2.1]; exact hk0) (by rw [W.2.1.2.1]; decide) _ hnum ?_
  refine ev_l2i 9 d_wt_writesVariant_9 ?_
  refine ev_topi (nI b) (lN_32 (by omega)) ?_
  refine ev_istore_4 10 d_wt_writesVariant_10 ?_ (hn := by exact Nat.le_of_ble_eq_true rfl)
  refine ev_aload_0 12 d_wt_writesVariant_12 ?_
  refine gw_get 13 16 1 d_wt_writesVariant_13 lk_wt_19 (W.1.2 16 (by decide) (by decide)) rfl (.ref (am (200 + 20 * J))) W.2.2.1.2.1 ?_
  refine ev_iload_3 16 d_wt_writesVariant_16 ?_
  refine ev_iconst_1 17 d_wt_writesVariant_17 ?_
  refine ev_iload_4 18 d_wt_writesVariant_18 ?_
  refine ev_i2l 20 d_wt_writesVariant_20 ?_
  refine ev_eq (st' := [.long (lN b), .int 1, .int (nI to), .ref (am (200 + 20 * J))]) ?_ (h2 := by rw [nI_l (by omega)])
  refine gw_callV 21 (200 + 20 * J) [.int (nI to), .int (nI 1), .long (lN b)] [] d_wt_writesVariant_21 hZ (kc_wt_93 (k9 := 1) (mc9 := 0) (ms9 := 0)) (hr_of hk1 (by decide) (by decide) (by decide)) W.2.2.2.2.2.1.1 (gk_in J W.2.2.2.2.2.2).1 rfl (ht_in_storeBytes J to 1 (lN b) hZ hNw W.1.1 W.2.2.2.2.2.2 W.2.2.2.2.2.1 (by omega) (by omega) (by decide)) (fun r9 w9 hw => ?_)
  obtain ⟨e1, e2⟩ := hw
  subst e1
  subst e2
  rw [show min 1 (256 - to) = 1 by omega]
  refine ev_eq (st' := []) ?_
  have kk : wkp J S (hb_sb S (201 + 20 * J) to (lN b) 1) := wsb_k (wkp.rf J S)
  have s1 : (hb_sb S (201 + 20 * J) to (lN b) 1).1 = S.1 := (hsb_1 _ _ _ _ _).1
  have R1 : WS K am N hd (hb_sb S (201 + 20 * J) to (lN b) 1) Bs F (va_up (wi_t B k0 to) 13 (mo_cp (B 13) (256 * i + pp) (256 * J + to) 1)) i J NT ni n ct pt sz (k0 + 1) := ⟨W.wk kk, hT.wk kk, hI.wk kk, by rw [s1]; exact hn4, hiv, h0, hM.pl hn6 W.2.2.2.2.2.2 hJn hiJ hto1 hpp (fun j hj => by
    obtain rfl : j = 0 := by omega
    rw [by_byte (by decide) (by omega), Nat.add_zero, hXb]
    congr 1
    omega) (va_up_self _ _ _) h14 (fun f hf => by rw [va_up_ne _ _ (by omega), wt_ne (by omega)])⟩
  have hT1 := R1.2.1
  obtain ⟨uk, hku, hkB, hka, -⟩ := hIt (k0 + 1) (by have := is_lt _ _ _ _ pt9; omega)
  obtain ⟨to', ht1, ht2, -⟩ := wr_to hW.1 (by have := is_lt _ _ _ _ pt9; omega) hiv hku hkB hka
  have hwto := wi_to_c hiv.1 h46 hk0 h44 (by have := hW.1; omega)
  rw [if_neg (by rw [hk10]; decide), va_up_ne _ _ (by decide), wt_50, h47, ht1] at hwto
  obtain ⟨-, hpt, -⟩ := hW.2.2 u b hu (by omega)
  have W0 := W
  have W := R1.1
  refine ev_aload_0 24 d_wt_writesVariant_24 ?_
  refine ev_aload_2 25 d_wt_writesVariant_25 ?_
  refine gw_get 26 (100 + 3 * u) 3 d_wt_writesVariant_26 lk_wt_70 (hT.k0 hu) (hT.g0 hu) (.ref (am (101 + 3 * u))) (hT1.f3 hu) ?_
  refine ev_iload_4 29 d_wt_writesVariant_29 ?_
  refine gw_qld (j := b) 31 (101 + 3 * u) d_wt_writesVariant_31 (hT.k1 hu) (hT.g1 hu) (by rw [hT.n1 hu]; omega) (by rw [hT.n1 hu]; omega) _ (hT1.pq hu (by omega)) ?_
  refine ev_iload_3 32 d_wt_writesVariant_32 ?_
  refine ev_aload_2 33 d_wt_writesVariant_33 ?_
  refine gw_get 34 (100 + 3 * u) 4 d_wt_writesVariant_34 lk_wt_107 (hT.k0 hu) (hT.g0 hu) (.ref (am (102 + 3 * u))) (hT1.f4 hu) ?_
  refine ev_iload_4 37 d_wt_writesVariant_37 ?_
  refine gw_ild (j := b) 39 (102 + 3 * u) d_wt_writesVariant_39 (hT.k2 hu) (hT.g2 hu) (by rw [hT.n2 hu]; omega) (by rw [hT.n2 hu]; omega) _ (hT1.oq hu (by omega)) ?_
  refine ev_iadd 40 d_wt_writesVariant_40 ?_
  refine ev_topi (nI to') hwto.symm ?_
  refine gw_callV 41 16 [.ref (am (100 + 3 * pt u b)), .int (nI to')] [] d_wt_writesVariant_41 hZ (kc_wt_42 (k9 := kI) (mc9 := 0) (ms9 := 0)) (hr_of hkI (by decide) (by decide) (by decide)) (W.1.2 16 (by decide) (by decide)) rfl rfl (RI (pt u b) (k0 + 1) k' to' F (va_up (wi_t B k0 to) 13 (mo_cp (B 13) (256 * i + pp) (256 * J + to) 1)) (hb_sb S (201 + 20 * J) to (lN b) 1) pt9 hk' hpt ht1 (by omega) R1) (fun r9 w9 hw => ?_)
  obtain ⟨y, S2, x1, x2, hk2, hb⟩ := hw
  subst x1
  subst x2
  refine ev_eq (st' := [.int y]) ?_
  refine ev_zret 44 d_wt_writesVariant_44 rfl ?_ ?_
  · exact wq_n hb
  exact WQ.tr kk (by rw [s1]) ⟨y, S2, rfl, rfl, hk2, hb⟩

set_option maxHeartbeats 8000000 in
set_option maxRecDepth 100000 in
theorem ht_wt_writesItem {l : Launch} {D : va_G} {tl : List (ClassId × FieldType)} {Z : (Nat → Prop) → State → Heap → Prop} {K : List Nat} {am : Nat → Nat} {ks : Nat → ClassId} {N : Nat → Nat} {Bs : Nat → Nat → Int32} {i J NT ni n : Nat} {ct dp : Nat → Nat} {pt : Nat → Nat → Nat} {sz al : Nat → Nat} (hd : Nat → Nat) (hZ : ev_Zok Z) (hNw : hc_ZN Z) (hZ9 : ho_Z Z hd) (hDi : ho_D hd) (C : WC Bs i J NT ni n ct dp pt sz al) : ∀ (d u a b to : Nat) (F : Nat → Int32) (B : Nat → Nat → Int32) (S : gS), is_t Bs i ct pt sz d u a b → b ≤ n → u < NT → wi_to B a = nI to → to ≤ 256 → WS K am N hd S Bs F B i J NT ni n ct pt sz a → MT (hc_π l D ks tl Z) (m_wt_writesItem (4 + 2 * d) 0 0) 0 0 [.ref (am 16), .ref (am (100 + 3 * u)), .int (nI to)] (gw K am ks N S) (WQ K am N hd ks S Bs i J NT ni n ct pt sz b (wl i J (b - a) a F B)) := by
  have C0 := C
  obtain ⟨⟨hin, hJn, hn6, hiJ⟩, h8, hW, hD, hS, hAl, hn200, hIt, hln⟩ := C
  intro d
  induction d with
  | zero => intro u a b to F B S h; exact h.elim
  | succ d ihd =>
    intro u a b to F B S hist hbn hu hto ht R0
    have hab := is_lt _ _ _ _ hist
    obtain ⟨h44, ha200, hcase⟩ := hist
    obtain ⟨W, hT, hI, hn4, hiv, h0, hM⟩ := R0
    have hNT := hW.1
    obtain ⟨uu, to2, mn, hp, ⟨p1, p2, p3, p4, -, p6, p7, p8, p9, p10, p11, p12⟩, sm, cd, nx⟩ := wr_st hW hD hS (ii := i) (by omega) hiv (hIt a (by omega)) h0
    have gB : ∀ f, f ≠ 13 → f ≠ 14 → f ≠ 16 → f ≠ 17 → f ≠ 18 → f ≠ 19 → f ≠ 50 → f ≠ 51 → f ≠ 53 → B f = Bs f := hiv.1
    have b44 : B 44 = Bs 44 := gB 44 (by decide) (by decide) (by decide) (by decide) (by decide) (by decide) (by decide) (by decide) (by decide)
    have b2 : B 2 = Bs 2 := gB 2 (by decide) (by decide) (by decide) (by decide) (by decide) (by decide) (by decide) (by decide) (by decide)
    have b45 : B 45 = Bs 45 := gB 45 (by decide) (by decide) (by decide) (by decide) (by decide) (by decide) (by decide) (by decide) (by decide)
    have b48 : B 48 = Bs 48 := gB 48 (by decide) (by decide) (by decide) (by decide) (by decide) (by decide) (by decide) (by decide) (by decide)
    have b49 : B 49 = Bs 49 := gB 49 (by decide) (by decide) (by decide) (by decide) (by decide) (by decide) (by decide) (by decide) (by decide)
    have b4 : B 4 = Bs 4 := gB 4 (by decide) (by decide) (by decide) (by decide) (by decide) (by decide) (by decide) (by decide) (by decide)
    have b5 : B 5 = Bs 5 := gB 5 (by decide) (by decide) (by decide) (by decide) (by decide) (by decide) (by decide) (by decide) (by decide)
    have b8 : B 8 = Bs 8 := gB 8 (by decide) (by decide) (by decide) (by decide) (by decide) (by decide) (by decide) (by decide) (by decide)
    have euu : uu = u := n_eq uu u (show nI uu = nI u by rw [← p2, b44, h44])
    have eto : to2 = to := n_eq to2 to (p3.symm.trans hto)
    subst euu
    subst eto
    obtain ⟨uk, hku, hkB, hIR⟩ := hI a (by omega)
    have euk : uk = uu := n_eq uk uu (hkB.symm.trans h44)
    subst euk
    rw [wl_hd h0 hab p2 (by omega) p3 p4]
    refine mt_of pl_wt rfl (Nat.le_of_ble_eq_true rfl) (ev_eq (lv' := [some (.ref (am 16)), some (.ref (am (100 + 3 * uk))), some (.int (nI to2)), none]) ?_)
    refine ev_aload_0 0 d_wt_writesItem_0 ?_
    refine gw_get 1 16 4 d_wt_writesItem_1 lk_wt_9 (W.1.2 16 (by decide) (by decide)) rfl (.int (nI a)) hn4 ?_
    refine ev_istore_3 4 d_wt_writesItem_4 ?_ (hn := by exact Nat.le_of_ble_eq_true rfl)
    refine ev_aload_0 5 d_wt_writesItem_5 ?_
    refine ev_dup_a 6 d_wt_writesItem_6 ?_
    refine gw_get 7 16 4 d_wt_writesItem_7 lk_wt_9 (W.1.2 16 (by decide) (by decide)) rfl (.int (nI a)) hn4 ?_
    refine ev_iconst_1 10 d_wt_writesItem_10 ?_
    refine ev_iadd 11 d_wt_writesItem_11 ?_
    refine ev_topi (nI (a + 1)) (nI_1 a) ?_
    refine gw_put 12 16 4 d_wt_writesItem_12 lp_wt_9 W.1.1 (W.1.2 16 (by decide) (by decide)) rfl (vp_nar_int _) rfl ?_
    have k1 : wkp J S (gsG S 16 4 (.int (nI (a + 1)))) := (wkp.rf J S).g (Or.inl ⟨rfl, rfl⟩)
    have W1 := W.wk k1
    have hT1 := hT.wk k1
    have hI1 := hI.wk k1
    have hM1 : WM am hd (gsG S 16 4 (.int (nI (a + 1)))) Bs B i J ni := hM.s0 hn6
    have hn41 : (gsG S 16 4 (.int (nI (a + 1)))).1 16 4 = .int (nI (a + 1)) := gsG_eq S 16 4 _
    have h141 : (gsG S 16 4 (.int (nI (a + 1)))).1 14 = S.1 14 := funext (fun j => gsG_nj (S := S) (k := 16) (j := 4) (k' := 14) (j' := j) (v := .int (nI (a + 1))) (Or.inl (by decide)))
    have hhp : (gsG S 16 4 (.int (nI (a + 1)))).1 (200 + 20 * J) 2 = .int (nI hp) := by rw [hM1.2.1, p6]
    refine ev_aload_1 15 d_wt_writesItem_15 ?_
    refine gw_get 16 (100 + 3 * uk) 0 d_wt_writesItem_16 lk_wt_64 (hT.k0 hu) (hT.g0 hu) (.int (Bs 2 uk)) (hT1.f0 hu) ?_
    rcases sw_tab (Bs 2 uk) 6 7 (by decide) with ⟨j19, hj19, e19⟩ | e19
    · obtain h19 | h19 | h19 | h19 | h19 | h19 | h19 : j19 = 0 ∨ j19 = 1 ∨ j19 = 2 ∨ j19 = 3 ∨ j19 = 4 ∨ j19 = 5 ∨ j19 = 6 := by omega
      · subst h19
        replace e19 : Bs 2 uk = 6 := e19
        refine ev_topi 6 e19 ?_
        refine ev_tabIn 19 60 d_wt_writesItem_19 (by decide) (by decide) rfl ?_
        have eb : b = a + 1 := hcase.elim (fun z => absurd (z.1.symm.trans e19) (by decide)) (fun z => z.elim (fun z => absurd (z.1.symm.trans e19) (by decide)) (fun z => z.elim (fun z => absurd (z.1.symm.trans e19) (by decide)) (fun z => z.2.2.2)))
        have k6 : B 2 uk = 6 := by rw [b2]; exact e19
        obtain ⟨m1, m2, m3⟩ := p8 (Or.inl k6)
        obtain ⟨fr, f1, f2, f3⟩ := p9 k6
        obtain ⟨fr', mn', g1, g2, g3, g4, g5, g6⟩ := hIR.2.1 (Or.inl e19)
        have ef : fr' = fr := n_eq fr' fr (show nI fr' = nI fr by rw [← g3, ← f1, b48])
        have em : mn' = mn := n_eq mn' mn (show nI mn' = nI mn by rw [← g4, ← m1, b49])
        subst ef
        subst em
        have hX : (wi_1 F B i J a uk to2) = _ := wi_6 k6 p6 m1 f1 p7 m2 f2
        refine ev_aload_0 60 d_wt_writesItem_60 ?_
        refine ev_iload_3 61 d_wt_writesItem_61 ?_
        refine ev_iload_2 62 d_wt_writesItem_62 ?_
        refine gw_callV 63 16 [.int (nI a), .int (nI to2)] [] d_wt_writesItem_63 hZ (kc_wt_67 (k9 := 3 + 2 * d) (mc9 := 0) (ms9 := 0)) (hr_of (by omega) (by decide) (by decide) (by decide)) (W.1.2 16 (by decide) (by decide)) rfl rfl (ht_wt_writesText a to2 hZ hNw W1 hiJ hhp p7 (by omega) g5 g6 f2 m2 f3 m3 (by omega) (by omega)) (fun r9 w9 hw => ?_)
        obtain ⟨y, S9, x1, x2, hb⟩ := hw
        subst x1
        subst x2
        refine ev_eq (st' := [.int y]) ?_
        refine ev_zret 66 d_wt_writesItem_66 rfl ?_ ?_
        · first | rfl | exact wq_n hb | exact wq_n hb.2 | (rcases hb with ⟨_, rfl, _⟩ | ⟨_, rfl, _⟩ <;> rfl)
        subst eb
        rw [Nat.sub_self]
        show WQ K am N hd ks S Bs i J NT ni n ct pt sz (a + 1) (wi_1 F B i J a uk to2) _ _
        rcases hb with ⟨hgt, ey, e9⟩ | ⟨hle, ey, e9⟩
        · subst e9
          subst ey
          have f54 := mo_fl54 h0 11 (nI (mo_ut hp 1))
          rw [hX, wl_no (dx := instDecidableTrue) hgt]
          refine ⟨_, _, rfl, rfl, k1.sp, Or.inr ⟨by dsimp only; rw [f54.1]; decide, rfl, by dsimp only; rw [f54.1]; exact sp_0 _ _ _, by dsimp only; rw [f54.2]; exact sp_1 _ _ _, fun j hj x hx => ?_, HA.fb (hM1.2.2.1.sp hn6) (fun f hf => ?_)⟩⟩
          · dsimp only
            rw [va_up_ne _ _ (by decide), wt_ne (by decide)]
            exact hM1.1 j hj x hx
          · dsimp only
            rw [va_up_ne _ _ (by omega), wt_ne (by omega)]
        · subst e9
          subst ey
          obtain ⟨w1, -, -, -, -, -⟩ := wl_ok (F := F) (B := B) (ii := i) (J := J) (it := a) (to := to2) (mn := mn') (fr := fr') (tx := True) (dx := instDecidableTrue) hle
          have h54 : (wi_1 F B i J a uk to2).1 54 = 0 := by rw [hX, w1]; exact h0
          have kk : wkp J S (wcp (hb_sb (wrm (gsG S 16 4 (.int (nI (a + 1)))) J (mo_ut hp 1) mn') (201 + 20 * J) to2 (lN (mo_ut hp 1 + mn' * 65536)) 4) (201 + 20 * J) (201 + 20 * i) (mo_ut hp 1) fr' mn') := wcp_k (wsb_k (wrm_k k1))
          have s9 : ∀ k j, k ≠ 200 + 20 * J → (wcp (hb_sb (wrm (gsG S 16 4 (.int (nI (a + 1)))) J (mo_ut hp 1) mn') (201 + 20 * J) to2 (lN (mo_ut hp 1 + mn' * 65536)) 4) (201 + 20 * J) (201 + 20 * i) (mo_ut hp 1) fr' mn').1 k j = (gsG S 16 4 (.int (nI (a + 1)))).1 k j := fun k j hk => by
            rw [(wcp_1 _ _ _ _ _ _).1, (hsb_1 _ _ _ _ _).1, wrm, gsG_nj (Or.inl hk), (wz_1 _ _ _ _).1]
          refine ⟨_, _, rfl, rfl, kk, Or.inl ⟨h54, rfl, ?_, W.wk kk, hT.wk kk, hI.wk kk, ?_, nx h54, h54, ?_⟩⟩
          · rw [← h141]; funext j; exact s9 14 j (by omega)
          · rw [s9 16 4 (by omega)]; exact hn41
          · rw [hX]
            exact hM1.te hn6 W.2.2.2.2.2.2 hJn hin hiJ m3 m2 hle f3
      · subst h19
        replace e19 : Bs 2 uk = 7 := e19
        refine ev_topi 7 e19 ?_
        refine ev_tabIn 19 103 d_wt_writesItem_19 (by decide) (by decide) rfl ?_
        have kle : Bs 2 uk ≤ 10 := by rw [e19]; decide
        have k6 : ¬ Bs 2 uk = 6 := by rw [e19]; decide
        have k8 : ¬ Bs 2 uk = 8 := by rw [e19]; decide
        have k9 : ¬ Bs 2 uk = 9 := by rw [e19]; decide
        have k10 : ¬ Bs 2 uk = 10 := by rw [e19]; decide
        have eb : b = a + 1 := hcase.elim (fun z => absurd z.1 k8) (fun z => z.elim (fun z => absurd z.1 k9) (fun z => z.elim (fun z => absurd z.1 k10) (fun z => z.2.2.2)))
        obtain ⟨pp, szu, n1, n2, n3, n4⟩ := p12 (by rw [b2]; exact k6) (by rw [b2]; exact k8) (by rw [b2]; exact kle) (by rw [b2]; exact k9)
        rw [if_neg (by rw [b2]; exact k10)] at n3 n4
        have hs0 := hS.1 uk hu
        have es : szu = sz uk := n_eq szu (sz uk) (show nI szu = nI (sz uk) by rw [← n2, b4]; exact hs0.1) (ha := by omega)
        obtain ⟨sz9, s1, s2, s3, s4⟩ := (hD uk hu).2.2 k6 k8 k9 k10 kle
        have es9 : sz9 = szu := (n_eq sz9 (sz uk) (s1.symm.trans hs0.1)).trans es.symm
        subst es9
        obtain ⟨v1, v2⟩ := hIR.2.2.2.2 k6 k8 k9 k10 kle
        have c45 : Bs 45 a = nI pp := by rw [← b45]; exact n1
        rw [c45, s1, nI_clamp (by omega)] at v1 v2
        have hX : (wi_1 F B i J a uk to2) = _ := wi_p (by rw [b2]; exact k6) (by rw [b2]; exact k8) (by rw [b2]; exact k9) (by rw [b2]; exact k10) (by rw [b2]; exact kle) n1 n2 (by omega) (by omega)
        refine ev_aload_0 103 d_wt_writesItem_103 ?_
        refine gw_get 104 16 1 d_wt_writesItem_104 lk_wt_19 (W.1.2 16 (by decide) (by decide)) rfl (.ref (am (200 + 20 * J))) W1.2.2.1.2.1 ?_
        refine ev_iload_2 107 d_wt_writesItem_107 ?_
        refine ev_aload_1 108 d_wt_writesItem_108 ?_
        refine gw_get 109 (100 + 3 * uk) 8 d_wt_writesItem_109 lk_wt_30 (hT.k0 hu) (hT.g0 hu) (.int (nI sz9)) ((hT1.f8 hu).trans (by rw [s1])) ?_
        refine ev_aload_0 112 d_wt_writesItem_112 ?_
        refine gw_get 113 16 2 d_wt_writesItem_113 lk_wt_22 (W.1.2 16 (by decide) (by decide)) rfl (.ref (am 10)) W1.2.2.1.2.2.1 ?_
        refine gw_get 116 10 1 d_wt_writesItem_116 lk_wt_87 (W.1.2 10 (by decide) (by decide)) rfl (.ref (am 12)) W1.2.2.2.1.2.1 ?_
        refine ev_iload_3 119 d_wt_writesItem_119 ?_
        refine gw_lld (j := a) 120 12 d_wt_writesItem_120 (W.1.2 12 (by decide) (by decide)) rfl (by rw [W.2.1.2.1]; omega) (by rw [W.2.1.2.1]; decide) _ v2 ?_
        refine gw_callV 121 (200 + 20 * J) [.int (nI to2), .int (nI sz9), .long (lN (by_w Bs i (nI pp) sz9))] [] d_wt_writesItem_121 hZ (kc_wt_93 (k9 := 1) (mc9 := 0) (ms9 := 0)) (hr_of (by omega) (by decide) (by decide) (by decide)) W.2.2.2.2.2.1.1 (gk_in J W.2.2.2.2.2.2).1 rfl (ht_in_storeBytes J to2 sz9 (lN (by_w Bs i (nI pp) sz9)) hZ hNw W.1.1 W.2.2.2.2.2.2 W1.2.2.2.2.2.1 (by omega) (by omega) (by decide)) (fun r9 w9 hw => ?_)
        obtain ⟨e1, e2⟩ := hw
        subst e1
        subst e2
        rw [show min sz9 (256 - to2) = sz9 by omega]
        refine ev_eq (st' := []) ?_
        refine ev_iconst_1 124 d_wt_writesItem_124 ?_
        refine ev_zret 125 d_wt_writesItem_125 rfl ?_ ?_
        · first | rfl | exact wq_n hb | exact wq_n hb.2 | (rcases hb with ⟨_, rfl, _⟩ | ⟨_, rfl, _⟩ <;> rfl)
        subst eb
        rw [Nat.sub_self]
        show WQ K am N hd ks S Bs i J NT ni n ct pt sz (a + 1) (wi_1 F B i J a uk to2) _ _
        have h54 : (wi_1 F B i J a uk to2).1 54 = 0 := by rw [hX]; exact h0
        have kk : wkp J S (hb_sb (gsG S 16 4 (.int (nI (a + 1)))) (201 + 20 * J) to2 (lN (by_w Bs i (nI pp) sz9)) sz9) := wsb_k k1
        have s9 : (hb_sb (gsG S 16 4 (.int (nI (a + 1)))) (201 + 20 * J) to2 (lN (by_w Bs i (nI pp) sz9)) sz9).1 = (gsG S 16 4 (.int (nI (a + 1)))).1 := (hsb_1 _ _ _ _ _).1
        refine ⟨_, _, rfl, rfl, kk, Or.inl ⟨h54, rfl, by rw [s9]; exact h141, W.wk kk, hT.wk kk, hI.wk kk, by rw [s9]; exact hn41, nx h54, h54, ?_⟩⟩
        rw [hX]
        refine hM1.pl hn6 W.2.2.2.2.2.2 hJn hiJ n4 n3 (fun j hj => ?_) (by dsimp only; exact va_up_self _ _ _) p6 (fun f hf => by dsimp only; rw [va_up_ne _ _ (by omega), wt_ne (by omega)])
        have lt := by_lt h8 W.2.2.2.2.1.2 sz9 v1
        rw [by_byte (by omega) (Nat.lt_of_lt_of_le lt (Nat.pow_le_pow_right (by decide) (by omega : sz9 ≤ 8))), by_dg h8 W.2.2.2.2.1.2 sz9 v1 hj]
        obtain ⟨bx, x1, x2, x3⟩ := bb_at h8 W.2.2.2.2.1.2 (a := pp + j) (by omega)
        rw [nI_add, x3, Nat.add_assoc, hM.2.2.2.1 _ (by omega), x2]
      · subst h19
        replace e19 : Bs 2 uk = 8 := e19
        refine ev_topi 8 e19 ?_
        refine ev_tabIn 19 67 d_wt_writesItem_19 (by decide) (by decide) rfl ?_
        have k8 : B 2 uk = 8 := by rw [b2]; exact e19
        obtain ⟨m1, m2, m3⟩ := p8 (Or.inr k8)
        obtain ⟨pu, szp, alp, l1, l2, l3, l4, l5, l6, l7⟩ := p10 k8
        have hct := (hD uk hu).2.1 e19
        obtain ⟨q8, hpt, -⟩ := hW.2.2 uk 0 hu (by omega)
        have epu : pu = pt uk 0 := n_eq pu (pt uk 0) (show nI pu = nI (pt uk 0) by rw [← l1, b8]; exact q8) (ha := by omega) (hb := by omega)
        subst epu
        have hs0 := hS.1 (pt uk 0) hpt
        have es : szp = sz (pt uk 0) := n_eq szp (sz (pt uk 0)) (show nI szp = nI (sz (pt uk 0)) by rw [← l3, b4]; exact hs0.1)
        have ea : alp = al (pt uk 0) := n_eq alp (al (pt uk 0)) (show nI alp = nI (al (pt uk 0)) by rw [← l5, b5]; exact hs0.2.2.1)
        subst es
        subst ea
        obtain ⟨fr', mn', g1, g2, g3, g4, g5, g6⟩ := hIR.2.1 (Or.inr e19)
        have em : mn' = mn := n_eq mn' mn (show nI mn' = nI mn by rw [← g4, ← m1, b49])
        subst em
        obtain ⟨mn2, c1, c2, c3⟩ : ∃ mn2, mn2 ≤ 65535 ∧ Bs 49 a = nI mn2 ∧ is_c (fun j a9 b => Bs 46 a9 = nI a ∧ Bs 47 a9 = nI (j * sz (pt uk 0)) ∧ is_t Bs i ct pt sz d (pt uk 0) a9 b) mn2 0 (a + 1) b := by
          rcases hcase with ⟨-, z⟩ | ⟨z, -⟩ | ⟨z, -⟩ | ⟨z, -⟩
          · exact z
          · exact absurd (z.symm.trans e19) (by decide)
          · exact absurd (z.symm.trans e19) (by decide)
          · exact absurd e19 z
        have em2 : mn2 = mn' := n_eq mn2 mn' (c2.symm.trans g4)
        subst em2
        have hX : (wi_1 F B i J a uk to2) = _ := wi_8 k8 p6 m1 l1 l3 l5 p7 m2 (by omega) l4 l7
        refine ev_aload_0 67 d_wt_writesItem_67 ?_
        refine ev_iload_3 68 d_wt_writesItem_68 ?_
        refine ev_aload_1 69 d_wt_writesItem_69 ?_
        refine gw_get 70 (100 + 3 * uk) 3 d_wt_writesItem_70 lk_wt_70 (hT.k0 hu) (hT.g0 hu) (.ref (am (101 + 3 * uk))) (hT1.f3 hu) ?_
        refine ev_iconst_0 73 d_wt_writesItem_73 ?_
        refine gw_qld (j := 0) 74 (101 + 3 * uk) d_wt_writesItem_74 (hT.k1 hu) (hT.g1 hu) (by rw [hT.n1 hu]; omega) (by rw [hT.n1 hu]; omega) _ (hT1.pq hu (by omega)) ?_
        refine ev_iload_2 75 d_wt_writesItem_75 ?_
        refine gw_callV 76 16 [.int (nI a), .ref (am (100 + 3 * pt uk 0)), .int (nI to2)] [] d_wt_writesItem_76 hZ (kc_wt_74 (k9 := 5 + 2 * d) (mc9 := 0) (ms9 := 0)) (hr_of (by omega) (by decide) (by decide) (by decide)) (W.1.2 16 (by decide) (by decide)) rfl rfl (ht_wt_writesList a (pt uk 0) to2 hd hZ hNw C0 (4 + 2 * d) (fun u a b to F B S h1 h2 h3 h4 h5 h6 => ihd u a b to F B S h1 h2 h3 h4 h5 h6) W1 hT1 hI1 hn41 hM1 h0 (by rw [← hX]; exact nx) hhp p7 m2 g6 m3 c3 hbn hpt e19 hu h44 (by omega) (by omega) (by omega) (by omega)) (fun r9 w9 hw => ?_)
        obtain ⟨y, S9, x1, x2, hb⟩ := hw
        subst x1
        subst x2
        refine ev_eq (st' := [.int y]) ?_
        refine ev_zret 79 d_wt_writesItem_79 rfl ?_ ?_
        · first | rfl | exact wq_n hb | exact wq_n hb.2 | (rcases hb with ⟨_, rfl, _⟩ | ⟨_, rfl, _⟩ <;> rfl)
        rw [hX]
        exact WQ.tr k1 h141 ⟨y, S9, rfl, rfl, hb⟩
      · subst h19
        replace e19 : Bs 2 uk = 9 := e19
        refine ev_topi 9 e19 ?_
        refine ev_tabIn 19 80 d_wt_writesItem_19 (by decide) (by decide) rfl ?_
        have k9 : B 2 uk = 9 := by rw [b2]; exact e19
        have hX : (wi_1 F B i J a uk to2) = _ := wi_9 k9
        have c9 : is_c (fun j a9 b => Bs 46 a9 = nI a ∧ Bs 47 a9 = Bs 9 (6 * uk + j) ∧ is_t Bs i ct pt sz d (pt uk j) a9 b) (ct uk) 0 (a + 1) b := by
          rcases hcase with ⟨z, -⟩ | ⟨-, z⟩ | ⟨z, -⟩ | ⟨-, z, -⟩
          · exact absurd (z.symm.trans e19) (by decide)
          · exact z
          · exact absurd (z.symm.trans e19) (by decide)
          · exact absurd e19 z
        have nx9 := nx (by rw [hX]; exact h0)
        rw [hX] at nx9
        have R1 : WS K am N hd (gsG S 16 4 (.int (nI (a + 1)))) Bs F (wi_t B a to2) i J NT ni n ct pt sz (a + 1) := ⟨W1, hT1, hI1, hn41, nx9, h0, hM1.wt (fun f hf => wt_ne (by omega))⟩
        refine ev_aload_0 80 d_wt_writesItem_80 ?_
        refine ev_aload_1 81 d_wt_writesItem_81 ?_
        refine ev_iload_2 82 d_wt_writesItem_82 ?_
        refine gw_callV 83 16 [.ref (am (100 + 3 * uk)), .int (nI to2)] [] d_wt_writesItem_83 hZ (kc_wt_78 (k9 := 5 + 2 * d) (mc9 := 0) (ms9 := 0)) (hr_of (by omega) (by decide) (by decide) (by decide)) (W.1.2 16 (by decide) (by decide)) rfl rfl (ht_wt_writesRecord uk to2 hd hZ hNw C0 (4 + 2 * d) (fun u a b to F B S h1 h2 h3 h4 h5 h6 => ihd u a b to F B S h1 h2 h3 h4 h5 h6) R1 c9 hbn hu e19 h44 wt_50 (by omega) (by omega)) (fun r9 w9 hw => ?_)
        obtain ⟨y, S9, x1, x2, hb⟩ := hw
        subst x1
        subst x2
        refine ev_eq (st' := [.int y]) ?_
        refine ev_zret 86 d_wt_writesItem_86 rfl ?_ ?_
        · first | rfl | exact wq_n hb | exact wq_n hb.2 | (rcases hb with ⟨_, rfl, _⟩ | ⟨_, rfl, _⟩ <;> rfl)
        rw [hX]
        exact WQ.tr k1 h141 ⟨y, S9, rfl, rfl, hb⟩
      · subst h19
        replace e19 : Bs 2 uk = 10 := e19
        refine ev_topi 10 e19 ?_
        refine ev_tabIn 19 87 d_wt_writesItem_19 (by decide) (by decide) rfl ?_
        have k10 : B 2 uk = 10 := by rw [b2]; exact e19
        obtain ⟨pp, szz, n1, n2, n3, n4⟩ := p12 (by rw [k10]; decide) (by rw [k10]; decide) (by rw [k10]; decide) (by rw [k10]; decide)
        rw [if_pos k10] at n3 n4
        obtain ⟨pp', bq, v1, v2, v3, v4, v5⟩ := hIR.2.2.1 e19
        have epp : pp' = pp := n_eq pp' pp (show nI pp' = nI pp by rw [← v2, ← n1, b45])
        subst epp
        obtain ⟨b9, pp2, y1, y2, y3, y4, y5, y6, y7⟩ : ∃ b9 pp2, b9 < ct uk ∧ pp2 < 256 ∧ Bs 45 a = nI pp2 ∧ Bs 13 (256 * i + pp2) = nI b9 ∧ Bs 46 (a + 1) = nI a ∧ Bs 47 (a + 1) = Bs 9 (6 * uk + b9) ∧ is_t Bs i ct pt sz d (pt uk b9) (a + 1) b := by
          rcases hcase with ⟨z, -⟩ | ⟨z, -⟩ | ⟨-, z⟩ | ⟨-, -, z, -⟩
          · exact absurd (z.symm.trans e19) (by decide)
          · exact absurd (z.symm.trans e19) (by decide)
          · exact z
          · exact absurd e19 z
        have epp2 : pp2 = pp' := n_eq pp2 pp' (y3.symm.trans v2)
        subst epp2
        have ct6 := (hW.2.1 uk hu).2.1
        have ebq : bq = b9 := n_eq bq b9 (v4.symm.trans y4)
        subst ebq
        have hX : (wi_1 F B i J a uk to2) = _ := wi_10 k10 n1 (by omega)
        have nx9 := nx (by rw [hX]; exact h0)
        rw [hX] at nx9
        refine ev_aload_0 87 d_wt_writesItem_87 ?_
        refine ev_iload_3 88 d_wt_writesItem_88 ?_
        refine ev_aload_1 89 d_wt_writesItem_89 ?_
        refine ev_iload_2 90 d_wt_writesItem_90 ?_
        refine gw_callV 91 16 [.int (nI a), .ref (am (100 + 3 * uk)), .int (nI to2)] [] d_wt_writesItem_91 hZ (kc_wt_81 (k9 := 5 + 2 * d) (mc9 := 0) (ms9 := 0)) (hr_of (by omega) (by decide) (by decide) (by decide)) (W.1.2 16 (by decide) (by decide)) rfl rfl (ht_wt_writesVariant a uk to2 hd hZ hNw C0 (4 + 2 * d) (fun u a b to F B S h1 h2 h3 h4 h5 h6 => ihd u a b to F B S h1 h2 h3 h4 h5 h6) W1 hT1 hI1 hn41 hM1 h0 nx9 p6 y1 v5 n3 (by rw [hM.2.2.2.1 _ (by omega)]; exact v4) n4 y5 y6 y7 hbn hu e19 h44 (by omega) (by omega) (by omega) (by omega)) (fun r9 w9 hw => ?_)
        obtain ⟨y, S9, x1, x2, hb⟩ := hw
        subst x1
        subst x2
        refine ev_eq (st' := [.int y]) ?_
        refine ev_zret 94 d_wt_writesItem_94 rfl ?_ ?_
        · first | rfl | exact wq_n hb | exact wq_n hb.2 | (rcases hb with ⟨_, rfl, _⟩ | ⟨_, rfl, _⟩ <;> rfl)
        rw [hX]
        exact WQ.tr k1 h141 ⟨y, S9, rfl, rfl, hb⟩
      · subst h19
        replace e19 : Bs 2 uk = 11 := e19
        refine ev_topi 11 e19 ?_
        refine ev_tabIn 19 95 d_wt_writesItem_19 (by decide) (by decide) rfl ?_
        have eb : b = a + 1 := hcase.elim (fun z => absurd (z.1.symm.trans e19) (by decide)) (fun z => z.elim (fun z => absurd (z.1.symm.trans e19) (by decide)) (fun z => z.elim (fun z => absurd (z.1.symm.trans e19) (by decide)) (fun z => z.2.2.2)))
        have k11 : ¬ B 2 uk ≤ 10 := by rw [b2, e19]; decide
        obtain ⟨-, t1, -⟩ := p11 k11
        obtain ⟨bh, h1, h2, h3, h4, h5⟩ := hIR.2.2.2.1 (by rw [e19]; decide)
        have hX : (wi_1 F B i J a uk to2) = _ := wi_11 k11
        have hus : ¬ B 16 (17 * i + bh) = 0 := hM.2.2.2.2.1 _ h5
        refine ev_aload_0 95 d_wt_writesItem_95 ?_
        refine ev_iload_3 96 d_wt_writesItem_96 ?_
        refine ev_aload_1 97 d_wt_writesItem_97 ?_
        refine ev_iload_2 98 d_wt_writesItem_98 ?_
        refine gw_callV 99 16 [.int (nI a), .ref (am (100 + 3 * uk)), .int (nI to2)] [] d_wt_writesItem_99 hZ (kc_wt_84 (k9 := 3 + 2 * d) (mc9 := 0) (ms9 := 0)) (hr_of (by omega) (by decide) (by decide) (by decide)) (W.1.2 16 (by decide) (by decide)) rfl rfl (ht_wt_writesHandle a uk to2 hZ hNw W1 hd hZ9 hDi hT1 hu hM1.2.2.1 hin hJn h1 h2 h4 hus hIR.1 (by omega) t1 (by omega) (by omega)) (fun r9 w9 hw => ?_)
        obtain ⟨y, S9, x1, x2, hb⟩ := hw
        subst x1
        subst x2
        refine ev_eq (st' := [.int y]) ?_
        refine ev_zret 102 d_wt_writesItem_102 rfl ?_ ?_
        · first | rfl | exact wq_n hb | exact wq_n hb.2 | (rcases hb with ⟨_, rfl, _⟩ | ⟨_, rfl, _⟩ <;> rfl)
        subst eb
        rw [Nat.sub_self]
        show WQ K am N hd ks S Bs i J NT ni n ct pt sz (a + 1) (wi_1 F B i J a uk to2) _ _
        rcases hb with ⟨hf0, ey, e9⟩ | ⟨hf0, ey, e9⟩
        · subst e9
          subst ey
          have f54 := mo_fl54 h0 12 (B 45 a)
          have t45 : wi_t B a to2 45 a = B 45 a := by rw [wt_ne (by decide)]
          rw [hX, wh_0 (by rw [wt_ne (by decide)]; exact hf0), t45]
          refine ⟨_, _, rfl, rfl, k1.sp, Or.inr ⟨by dsimp only; rw [f54.1]; decide, rfl, by dsimp only; rw [f54.1]; exact sp_0 _ _ _, by dsimp only; rw [f54.2, b45]; exact sp_1 _ _ _, fun j hj x hx => ?_, HA.fb (hM1.2.2.1.sp hn6) (fun f hf => ?_)⟩⟩
          · dsimp only
            rw [wt_ne (by decide)]
            exact hM1.1 j hj x hx
          · dsimp only
            rw [wt_ne (by omega)]
        · rw [if_pos e19, if_pos e19] at e9
          subst e9
          subst ey
          obtain ⟨f1, f2, f3⟩ := (mo_fh_ok (B 16) (17 * J) 16 (Nat.le_refl _)).resolve_left hf0
          obtain ⟨w1, w16, w18, w17, w19, w13, wf⟩ := wh_f (F := F) (B := wi_t B a to2) (J := J) (it := a) (fh := (mo_fh (B 16) (17 * J) 16)) (by rw [wt_ne (by decide)]) hf0
          rw [wt_ne (by decide)] at w16
          rw [wt_ne (by decide), wt_ne (by decide), wt_ne (by decide), p2, nI_clamp (by omega), b2, e19] at w18
          rw [wt_ne (by decide), wt_ne (by decide), b48, h3, nI_clamp (by omega)] at w17
          rw [wt_ne (by decide), wt_ne (by decide), b48, h3] at w19
          rw [wt_ne (by decide), wt_50, nI_clamp (by omega)] at w13
          have h54 : (wi_1 F B i J a uk to2).1 54 = 0 := by rw [hX, w1, upd_ne (by decide)]; exact h0
          have kR : gk (202 + 20 * J + (mo_fh (B 16) (17 * J) 16)) = 4 := by rw [← k_pr f1]; exact (gk_in J W.2.2.2.2.2.2).2.2.2 ((mo_fh (B 16) (17 * J) 16) - 1) (by omega)
          have kk : wkp J S (hb_sb (wus (gsG S 16 4 (.int (nI (a + 1)))) (202 + 20 * J + (mo_fh (B 16) (17 * J) 16)) (B 17 (17 * i + bh)) (B 23 (B 17 (17 * i + bh)).toNatClampNeg) (hd 4) (.null)) (201 + 20 * J) to2 (lN (mo_fh (B 16) (17 * J) 16)) 1) := wsb_k (wus_k k1 kR)
          have s9 : ∀ k j, k ≠ 202 + 20 * J + (mo_fh (B 16) (17 * J) 16) → (hb_sb (wus (gsG S 16 4 (.int (nI (a + 1)))) (202 + 20 * J + (mo_fh (B 16) (17 * J) 16)) (B 17 (17 * i + bh)) (B 23 (B 17 (17 * i + bh)).toNatClampNeg) (hd 4) (.null)) (201 + 20 * J) to2 (lN (mo_fh (B 16) (17 * J) 16)) 1).1 k j = (gsG S 16 4 (.int (nI (a + 1)))).1 k j := fun k j hk => by
            rw [(hsb_1 _ _ _ _ _).1, wus, gsG_nj (Or.inl hk), gsG_nj (Or.inl hk), gsG_nj (Or.inl hk), gsG_nj (Or.inl hk), gsG_nj (Or.inl hk)]
          refine ⟨_, _, rfl, rfl, kk, Or.inl ⟨h54, rfl, ?_, W.wk kk, hT.wk kk, hI.wk kk, ?_, nx h54, h54, ?_⟩⟩
          · rw [← h141]; funext j; exact s9 14 j (by omega)
          · rw [s9 16 4 (by omega)]; exact hn41
          · rw [hX]
            exact hM1.ha hn6 W.2.2.2.2.2.2 hJn hin hiJ t1 f1 f2 f3 h1 h2 (hln _ (by omega) (by omega) (Decidable.byContradiction (fun z => hM.2.2.2.2.1 _ z f3))) (Or.inl ⟨rfl, rfl⟩) w16 w17 w18 w19 w13 (fun f hf => by rw [wf f (by omega) (by omega) (by omega) (by omega) (by omega) (by omega), wt_ne (by omega)])
      · subst h19
        replace e19 : Bs 2 uk = 12 := e19
        refine ev_topi 12 e19 ?_
        refine ev_tabIn 19 95 d_wt_writesItem_19 (by decide) (by decide) rfl ?_
        have eb : b = a + 1 := hcase.elim (fun z => absurd (z.1.symm.trans e19) (by decide)) (fun z => z.elim (fun z => absurd (z.1.symm.trans e19) (by decide)) (fun z => z.elim (fun z => absurd (z.1.symm.trans e19) (by decide)) (fun z => z.2.2.2)))
        have k11 : ¬ B 2 uk ≤ 10 := by rw [b2, e19]; decide
        obtain ⟨-, t1, -⟩ := p11 k11
        obtain ⟨bh, h1, h2, h3, h4, h5⟩ := hIR.2.2.2.1 (by rw [e19]; decide)
        have hX : (wi_1 F B i J a uk to2) = _ := wi_11 k11
        have hus : ¬ B 16 (17 * i + bh) = 0 := hM.2.2.2.2.1 _ h5
        refine ev_aload_0 95 d_wt_writesItem_95 ?_
        refine ev_iload_3 96 d_wt_writesItem_96 ?_
        refine ev_aload_1 97 d_wt_writesItem_97 ?_
        refine ev_iload_2 98 d_wt_writesItem_98 ?_
        refine gw_callV 99 16 [.int (nI a), .ref (am (100 + 3 * uk)), .int (nI to2)] [] d_wt_writesItem_99 hZ (kc_wt_84 (k9 := 3 + 2 * d) (mc9 := 0) (ms9 := 0)) (hr_of (by omega) (by decide) (by decide) (by decide)) (W.1.2 16 (by decide) (by decide)) rfl rfl (ht_wt_writesHandle a uk to2 hZ hNw W1 hd hZ9 hDi hT1 hu hM1.2.2.1 hin hJn h1 h2 h4 hus hIR.1 (by omega) t1 (by omega) (by omega)) (fun r9 w9 hw => ?_)
        obtain ⟨y, S9, x1, x2, hb⟩ := hw
        subst x1
        subst x2
        refine ev_eq (st' := [.int y]) ?_
        refine ev_zret 102 d_wt_writesItem_102 rfl ?_ ?_
        · first | rfl | exact wq_n hb | exact wq_n hb.2 | (rcases hb with ⟨_, rfl, _⟩ | ⟨_, rfl, _⟩ <;> rfl)
        subst eb
        rw [Nat.sub_self]
        show WQ K am N hd ks S Bs i J NT ni n ct pt sz (a + 1) (wi_1 F B i J a uk to2) _ _
        rcases hb with ⟨hf0, ey, e9⟩ | ⟨hf0, ey, e9⟩
        · subst e9
          subst ey
          have f54 := mo_fl54 h0 12 (B 45 a)
          have t45 : wi_t B a to2 45 a = B 45 a := by rw [wt_ne (by decide)]
          rw [hX, wh_0 (by rw [wt_ne (by decide)]; exact hf0), t45]
          refine ⟨_, _, rfl, rfl, k1.sp, Or.inr ⟨by dsimp only; rw [f54.1]; decide, rfl, by dsimp only; rw [f54.1]; exact sp_0 _ _ _, by dsimp only; rw [f54.2, b45]; exact sp_1 _ _ _, fun j hj x hx => ?_, HA.fb (hM1.2.2.1.sp hn6) (fun f hf => ?_)⟩⟩
          · dsimp only
            rw [wt_ne (by decide)]
            exact hM1.1 j hj x hx
          · dsimp only
            rw [wt_ne (by omega)]
        · rw [if_neg (by rw [e19]; decide), if_neg (by rw [e19]; decide)] at e9
          subst e9
          subst ey
          obtain ⟨f1, f2, f3⟩ := (mo_fh_ok (B 16) (17 * J) 16 (Nat.le_refl _)).resolve_left hf0
          obtain ⟨w1, w16, w18, w17, w19, w13, wf⟩ := wh_f (F := F) (B := wi_t B a to2) (J := J) (it := a) (fh := (mo_fh (B 16) (17 * J) 16)) (by rw [wt_ne (by decide)]) hf0
          rw [wt_ne (by decide)] at w16
          rw [wt_ne (by decide), wt_ne (by decide), wt_ne (by decide), p2, nI_clamp (by omega), b2, e19] at w18
          rw [wt_ne (by decide), wt_ne (by decide), b48, h3, nI_clamp (by omega)] at w17
          rw [wt_ne (by decide), wt_ne (by decide), b48, h3] at w19
          rw [wt_ne (by decide), wt_50, nI_clamp (by omega)] at w13
          have h54 : (wi_1 F B i J a uk to2).1 54 = 0 := by rw [hX, w1, upd_ne (by decide)]; exact h0
          have kR : gk (202 + 20 * J + (mo_fh (B 16) (17 * J) 16)) = 4 := by rw [← k_pr f1]; exact (gk_in J W.2.2.2.2.2.2).2.2.2 ((mo_fh (B 16) (17 * J) 16) - 1) (by omega)
          have kk : wkp J S (hb_sb (wus (gsG S 16 4 (.int (nI (a + 1)))) (202 + 20 * J + (mo_fh (B 16) (17 * J) 16)) (B 17 (17 * i + bh)) (B 23 (B 17 (17 * i + bh)).toNatClampNeg) (hd 2) (.ref (am (202 + 20 * i + bh)))) (201 + 20 * J) to2 (lN (mo_fh (B 16) (17 * J) 16)) 1) := wsb_k (wus_k k1 kR)
          have s9 : ∀ k j, k ≠ 202 + 20 * J + (mo_fh (B 16) (17 * J) 16) → (hb_sb (wus (gsG S 16 4 (.int (nI (a + 1)))) (202 + 20 * J + (mo_fh (B 16) (17 * J) 16)) (B 17 (17 * i + bh)) (B 23 (B 17 (17 * i + bh)).toNatClampNeg) (hd 2) (.ref (am (202 + 20 * i + bh)))) (201 + 20 * J) to2 (lN (mo_fh (B 16) (17 * J) 16)) 1).1 k j = (gsG S 16 4 (.int (nI (a + 1)))).1 k j := fun k j hk => by
            rw [(hsb_1 _ _ _ _ _).1, wus, gsG_nj (Or.inl hk), gsG_nj (Or.inl hk), gsG_nj (Or.inl hk), gsG_nj (Or.inl hk), gsG_nj (Or.inl hk)]
          refine ⟨_, _, rfl, rfl, kk, Or.inl ⟨h54, rfl, ?_, W.wk kk, hT.wk kk, hI.wk kk, ?_, nx h54, h54, ?_⟩⟩
          · rw [← h141]; funext j; exact s9 14 j (by omega)
          · rw [s9 16 4 (by omega)]; exact hn41
          · rw [hX]
            exact hM1.ha hn6 W.2.2.2.2.2.2 hJn hin hiJ t1 f1 f2 f3 h1 h2 (hln _ (by omega) (by omega) (Decidable.byContradiction (fun z => hM.2.2.2.2.1 _ z f3))) (Or.inr ⟨rfl, rfl, rfl⟩) w16 w17 w18 w19 w13 (fun f hf => by rw [wf f (by omega) (by omega) (by omega) (by omega) (by omega) (by omega), wt_ne (by omega)])
    · refine ev_tabOut 19 103 d_wt_writesItem_19 e19 ?_
      obtain ⟨kd, k9a, k9b⟩ := hT.kd hu
      have hne : kd < 6 := by rw [k9b, nI_toInt (by omega)] at e19; omega
      have g9 : ∀ c : Nat, 6 ≤ c → c < 100 → ¬ Bs 2 uk = nI c := fun c h1 h2 z => by rw [k9b] at z; exact absurd (n_eq kd c z) (by omega)
      have kle : Bs 2 uk ≤ 10 := by rw [k9b]; exact nI_le (b := 10) (by omega) (by decide)
      have k6 : ¬ Bs 2 uk = 6 := g9 6 (by decide) (by decide)
      have k8 : ¬ Bs 2 uk = 8 := g9 8 (by decide) (by decide)
      have k9 : ¬ Bs 2 uk = 9 := g9 9 (by decide) (by decide)
      have k10 : ¬ Bs 2 uk = 10 := g9 10 (by decide) (by decide)
      have eb : b = a + 1 := hcase.elim (fun z => absurd z.1 k8) (fun z => z.elim (fun z => absurd z.1 k9) (fun z => z.elim (fun z => absurd z.1 k10) (fun z => z.2.2.2)))
      obtain ⟨pp, szu, n1, n2, n3, n4⟩ := p12 (by rw [b2]; exact k6) (by rw [b2]; exact k8) (by rw [b2]; exact kle) (by rw [b2]; exact k9)
      rw [if_neg (by rw [b2]; exact k10)] at n3 n4
      have hs0 := hS.1 uk hu
      have es : szu = sz uk := n_eq szu (sz uk) (show nI szu = nI (sz uk) by rw [← n2, b4]; exact hs0.1) (ha := by omega)
      obtain ⟨sz9, s1, s2, s3, s4⟩ := (hD uk hu).2.2 k6 k8 k9 k10 kle
      have es9 : sz9 = szu := (n_eq sz9 (sz uk) (s1.symm.trans hs0.1)).trans es.symm
      subst es9
      obtain ⟨v1, v2⟩ := hIR.2.2.2.2 k6 k8 k9 k10 kle
      have c45 : Bs 45 a = nI pp := by rw [← b45]; exact n1
      rw [c45, s1, nI_clamp (by omega)] at v1 v2
      have hX : (wi_1 F B i J a uk to2) = _ := wi_p (by rw [b2]; exact k6) (by rw [b2]; exact k8) (by rw [b2]; exact k9) (by rw [b2]; exact k10) (by rw [b2]; exact kle) n1 n2 (by omega) (by omega)
      refine ev_aload_0 103 d_wt_writesItem_103 ?_
      refine gw_get 104 16 1 d_wt_writesItem_104 lk_wt_19 (W.1.2 16 (by decide) (by decide)) rfl (.ref (am (200 + 20 * J))) W1.2.2.1.2.1 ?_
      refine ev_iload_2 107 d_wt_writesItem_107 ?_
      refine ev_aload_1 108 d_wt_writesItem_108 ?_
      refine gw_get 109 (100 + 3 * uk) 8 d_wt_writesItem_109 lk_wt_30 (hT.k0 hu) (hT.g0 hu) (.int (nI sz9)) ((hT1.f8 hu).trans (by rw [s1])) ?_
      refine ev_aload_0 112 d_wt_writesItem_112 ?_
      refine gw_get 113 16 2 d_wt_writesItem_113 lk_wt_22 (W.1.2 16 (by decide) (by decide)) rfl (.ref (am 10)) W1.2.2.1.2.2.1 ?_
      refine gw_get 116 10 1 d_wt_writesItem_116 lk_wt_87 (W.1.2 10 (by decide) (by decide)) rfl (.ref (am 12)) W1.2.2.2.1.2.1 ?_
      refine ev_iload_3 119 d_wt_writesItem_119 ?_
      refine gw_lld (j := a) 120 12 d_wt_writesItem_120 (W.1.2 12 (by decide) (by decide)) rfl (by rw [W.2.1.2.1]; omega) (by rw [W.2.1.2.1]; decide) _ v2 ?_
      refine gw_callV 121 (200 + 20 * J) [.int (nI to2), .int (nI sz9), .long (lN (by_w Bs i (nI pp) sz9))] [] d_wt_writesItem_121 hZ (kc_wt_93 (k9 := 1) (mc9 := 0) (ms9 := 0)) (hr_of (by omega) (by decide) (by decide) (by decide)) W.2.2.2.2.2.1.1 (gk_in J W.2.2.2.2.2.2).1 rfl (ht_in_storeBytes J to2 sz9 (lN (by_w Bs i (nI pp) sz9)) hZ hNw W.1.1 W.2.2.2.2.2.2 W1.2.2.2.2.2.1 (by omega) (by omega) (by decide)) (fun r9 w9 hw => ?_)
      obtain ⟨e1, e2⟩ := hw
      subst e1
      subst e2
      rw [show min sz9 (256 - to2) = sz9 by omega]
      refine ev_eq (st' := []) ?_
      refine ev_iconst_1 124 d_wt_writesItem_124 ?_
      refine ev_zret 125 d_wt_writesItem_125 rfl ?_ ?_
      · first | rfl | exact wq_n hb | exact wq_n hb.2 | (rcases hb with ⟨_, rfl, _⟩ | ⟨_, rfl, _⟩ <;> rfl)
      subst eb
      rw [Nat.sub_self]
      show WQ K am N hd ks S Bs i J NT ni n ct pt sz (a + 1) (wi_1 F B i J a uk to2) _ _
      have h54 : (wi_1 F B i J a uk to2).1 54 = 0 := by rw [hX]; exact h0
      have kk : wkp J S (hb_sb (gsG S 16 4 (.int (nI (a + 1)))) (201 + 20 * J) to2 (lN (by_w Bs i (nI pp) sz9)) sz9) := wsb_k k1
      have s9 : (hb_sb (gsG S 16 4 (.int (nI (a + 1)))) (201 + 20 * J) to2 (lN (by_w Bs i (nI pp) sz9)) sz9).1 = (gsG S 16 4 (.int (nI (a + 1)))).1 := (hsb_1 _ _ _ _ _).1
      refine ⟨_, _, rfl, rfl, kk, Or.inl ⟨h54, rfl, by rw [s9]; exact h141, W.wk kk, hT.wk kk, hI.wk kk, by rw [s9]; exact hn41, nx h54, h54, ?_⟩⟩
      rw [hX]
      refine hM1.pl hn6 W.2.2.2.2.2.2 hJn hiJ n4 n3 (fun j hj => ?_) (by dsimp only; exact va_up_self _ _ _) p6 (fun f hf => by dsimp only; rw [va_up_ne _ _ (by omega), wt_ne (by omega)])
      have lt := by_lt h8 W.2.2.2.2.1.2 sz9 v1
      rw [by_byte (by omega) (Nat.lt_of_lt_of_le lt (Nat.pow_le_pow_right (by decide) (by omega : sz9 ≤ 8))), by_dg h8 W.2.2.2.2.1.2 sz9 v1 hj]
      obtain ⟨bx, x1, x2, x3⟩ := bb_at h8 W.2.2.2.2.1.2 (a := pp + j) (by omega)
      rw [nI_add, x3, Nat.add_assoc, hM.2.2.2.1 _ (by omega), x2]
