set_option maxHeartbeats 4000000 in
set_option maxRecDepth 100000 in
theorem ht_wt_writesRecord {l : Launch} {D : va_G} {tl : List (ClassId × FieldType)} {Z : (Nat → Prop) → State → Heap → Prop} {K : List Nat} {am : Nat → Nat} {ks : Nat → ClassId} {N : Nat → Nat} {S : gS} {k : Nat} (u : Nat) (to : Nat) {Bs : Nat → Nat → Int32} {i J NT ni n : Nat} {ct dp : Nat → Nat} {pt : Nat → Nat → Nat} {sz al : Nat → Nat} (hd : Nat → Nat) (hZ : ev_Zok Z) (hNw : hc_ZN Z) (C : WC Bs i J NT ni n ct dp pt sz al) {d : Nat} (kI : Nat) (RI : ∀ (u a b to : Nat) (F : Nat → Int32) (B : Nat → Nat → Int32) (S : gS), is_t Bs i ct pt sz d u a b → b ≤ n → u < NT → wi_to B a = nI to → to ≤ 256 → WS K am N hd S Bs F B i J NT ni n ct pt sz a → MT (hc_π l D ks tl Z) (m_wt_writesItem (kI) 0 0) 0 0 [.ref (am 16), .ref (am (100 + 3 * u)), .int (nI to)] (gw K am ks N S) (WQ K am N hd ks S Bs i J NT ni n ct pt sz b (wl i J (b - a) a F B))) {F : Nat → Int32} {B : Nat → Nat → Int32} {k0 k' : Nat} (R0 : WS K am N hd S Bs F B i J NT ni n ct pt sz (k0 + 1)) (hch : is_c (fun j a b => Bs 46 a = nI k0 ∧ Bs 47 a = Bs 9 (6 * u + j) ∧ is_t Bs i ct pt sz d (pt u j) a b) (ct u) 0 (k0 + 1) k') (hk' : k' ≤ n) (hu : u < NT) (hk9 : Bs 2 u = 9) (h44 : Bs 44 k0 = nI u) (h50 : B 50 k0 = nI to) (hk0 : k0 < 200) (hkI : kI < k) : MT (hc_π l D ks tl Z) (m_wt_writesRecord k 0 0) 0 0 [.ref (am 16), .ref (am (100 + 3 * u)), .int (nI to)] (gw K am ks N S) (WQ K am N hd ks S Bs i J NT ni n ct pt sz k' (wl i J (k' - (k0 + 1)) (k0 + 1) F B)) := by
  refine mt_of pl_wt rfl (Nat.le_of_ble_eq_true rfl) (ev_eq (lv' := [some (.ref (am 16)), some (.ref (am (100 + 3 * u))), some (.int (nI to)), none]) ?_)
  obtain ⟨⟨hin, hJn, hn6, hiJ⟩, h8, hW, hD, hS, hAl, hn200, hIt, hln⟩ := C
  obtain ⟨e7u, cu6, -, -⟩ := hW.2.1 u hu
  have L2 : ∀ (r j a : Nat) (S1 : gS) (F1 : Nat → Int32) (B1 : Nat → Nat → Int32), r + j = ct u → is_c (fun j a b => Bs 46 a = nI k0 ∧ Bs 47 a = Bs 9 (6 * u + j) ∧ is_t Bs i ct pt sz d (pt u j) a b) r j a k' → k0 + 1 ≤ a → wkp J S S1 → S1.1 14 = S.1 14 → WS K am N hd S1 Bs F1 B1 i J NT ni n ct pt sz a → wl i J (a - (k0 + 1)) (k0 + 1) F B = (F1, B1) → EV (hc_π l D ks tl Z) (m_wt_writesRecord k 0 0) (ev_E (hc_π l D ks tl Z) 0 0 (WQ K am N hd ks S Bs i J NT ni n ct pt sz k' (wl i J (k' - (k0 + 1)) (k0 + 1) F B))) 0 0 2 [some (.ref (am 16)), some (.ref (am (100 + 3 * u))), some (.int (nI to)), some (.int (nI j))] [] (gw K am ks N S1) := by
    intro r
    induction r with
    | zero =>
      intro j a S1 F1 B1 hj hc hka1 hkw h14 hR hwl
      have hT := hR.2.1
      have W := hR.1
      refine ev_iload_3 2 d_wt_writesRecord_2 ?_
      refine ev_aload_1 3 d_wt_writesRecord_3 ?_
      refine gw_get 4 (100 + 3 * u) 2 d_wt_writesRecord_4 lk_wt_104 (hT.k0 hu) (hT.g0 hu) (.int (nI (ct u))) ((hT.f2 hu).trans (by rw [e7u])) ?_
      refine ev_icmpge 7 39 d_wt_writesRecord_7 (fun c7 => ?_) (fun c7 => ?_)
      · refine ev_iconst_1 39 d_wt_writesRecord_39 ?_
        refine ev_zret 40 d_wt_writesRecord_40 rfl ?_ ?_
        · rfl
        have hc : a = k' := hc
        subst hc
        rw [hwl]
        exact ⟨_, S1, rfl, rfl, hkw, Or.inl ⟨hR.2.2.2.2.2.1, rfl, h14, hR⟩⟩
      · exact absurd (nI_le (show ct u ≤ j by omega) (by omega)) c7
    | succ r ih =>
      intro j a S1 F1 B1 hj hc hka1 hkw h14 hR hwl
      obtain ⟨m9, ⟨p46, p47, pt9⟩, hc2⟩ := hc
      have ham := is_lt _ _ _ _ pt9
      have hmk := is_c_le (fun j a m z => is_lt _ _ a m z.2.2) _ _ _ _ hc2
      obtain ⟨W, hT, hI, hn4, hiv, h054, hM1⟩ := hR
      have hR : WS K am N hd S1 Bs F1 B1 i J NT ni n ct pt sz a := ⟨W, hT, hI, hn4, hiv, h054, hM1⟩
      obtain ⟨uk, hku, hkB, hka, -⟩ := hIt a (by omega)
      obtain ⟨to', ht1, ht2, -⟩ := wr_to hW.1 (by omega) hiv hku hkB hka
      have hwto := wi_to_c hiv.1 p46 hk0 h44 (by have := hW.1; omega)
      have e50 := wl_50 (ii := i) (J := J) (a - (k0 + 1)) (k0 + 1) F B k0 (Nat.lt_succ_self k0)
      rw [hwl] at e50
      dsimp only at e50
      rw [if_neg (by rw [hk9]; decide), e50.1, h50, p47, ht1] at hwto
      obtain ⟨-, hpt, -⟩ := hW.2.2 u j hu (by omega)
      refine ev_iload_3 2 d_wt_writesRecord_2 ?_
      refine ev_aload_1 3 d_wt_writesRecord_3 ?_
      refine gw_get 4 (100 + 3 * u) 2 d_wt_writesRecord_4 lk_wt_104 (hT.k0 hu) (hT.g0 hu) (.int (nI (ct u))) ((hT.f2 hu).trans (by rw [e7u])) ?_
      refine ev_icmpge 7 39 d_wt_writesRecord_7 (fun c7 => ?_) (fun c7 => ?_)
      · exact absurd (n_le (ct u) j c7) (by omega)
      · refine ev_aload_0 10 d_wt_writesRecord_10 ?_
        refine ev_aload_1 11 d_wt_writesRecord_11 ?_
        refine gw_get 12 (100 + 3 * u) 3 d_wt_writesRecord_12 lk_wt_70 (hT.k0 hu) (hT.g0 hu) (.ref (am (101 + 3 * u))) (hT.f3 hu) ?_
        refine ev_iload_3 15 d_wt_writesRecord_15 ?_
        refine gw_qld (j := j) 16 (101 + 3 * u) d_wt_writesRecord_16 (hT.k1 hu) (hT.g1 hu) (by rw [hT.n1 hu]; omega) (by rw [hT.n1 hu]; omega) _ (hT.pq hu (by omega)) ?_
        refine ev_iload_2 17 d_wt_writesRecord_17 ?_
        refine ev_aload_1 18 d_wt_writesRecord_18 ?_
        refine gw_get 19 (100 + 3 * u) 4 d_wt_writesRecord_19 lk_wt_107 (hT.k0 hu) (hT.g0 hu) (.ref (am (102 + 3 * u))) (hT.f4 hu) ?_
        refine ev_iload_3 22 d_wt_writesRecord_22 ?_
        refine gw_ild (j := j) 23 (102 + 3 * u) d_wt_writesRecord_23 (hT.k2 hu) (hT.g2 hu) (by rw [hT.n2 hu]; omega) (by rw [hT.n2 hu]; omega) _ (hT.oq hu (by omega)) ?_
        refine ev_iadd 24 d_wt_writesRecord_24 ?_
        refine ev_topi (nI to') hwto.symm ?_
        refine gw_callV 25 16 [.ref (am (100 + 3 * pt u j)), .int (nI to')] [] d_wt_writesRecord_25 hZ (kc_wt_42 (k9 := kI) (mc9 := 0) (ms9 := 0)) (hr_of hkI (by decide) (by decide) (by decide)) (W.1.2 16 (by decide) (by decide)) rfl rfl (RI (pt u j) a m9 to' F1 B1 S1 pt9 (by omega) hpt ht1 (by omega) hR) (fun r9 w9 hw => ?_)
        obtain ⟨y, S2, x1, x2, hk2, hb⟩ := hw
        subst x1
        subst x2
        refine ev_eq (st' := [.int y]) ?_
        refine ev_ifne 28 33 d_wt_writesRecord_28 (fun c28 => ?_) (fun c28 => ?_)
        · obtain ⟨hf0, h142, hR2⟩ : (wl i J (m9 - a) a F1 B1).1 54 = 0 ∧ S2.1 14 = S1.1 14 ∧ WS K am N hd S2 Bs (wl i J (m9 - a) a F1 B1).1 (wl i J (m9 - a) a F1 B1).2 i J NT ni n ct pt sz m9 := by
            rcases hb with ⟨z1, -, z3, z4⟩ | ⟨-, ey, -⟩
            · exact ⟨z1, z3, z4⟩
            · exact absurd ey c28
          refine ev_iinc_3 33 d_wt_writesRecord_33 ?_ (hn := by exact Nat.le_of_ble_eq_true rfl)
          refine ev_goto 36 2 d_wt_writesRecord_36 ?_
          have hwl2 := wl_sp (k' := k') hwl hka1 (Nat.le_of_lt ham)
          exact ev_eq (ih (j + 1) m9 S2 _ _ (by omega) hc2 (by omega) (hkw.tr hk2) (h142.trans h14) hR2 hwl2) (h1 := by rw [n_i1])
        · obtain ⟨hf0, hz⟩ : ¬ (wl i J (m9 - a) a F1 B1).1 54 = 0 ∧ (S2.1 14 0 = .int ((wl i J (m9 - a) a F1 B1).1 54) ∧ S2.1 14 1 = .int ((wl i J (m9 - a) a F1 B1).1 55) ∧ (∀ j, j < ni → me_R S2 (wl i J (m9 - a) a F1 B1).2 j) ∧ HA am hd S2 (wl i J (m9 - a) a F1 B1).2 (frB Bs (wl i J (m9 - a) a F1 B1).2) (lnB Bs) ni) := by
            rcases hb with ⟨-, ey, -⟩ | ⟨z1, -, z2⟩
            · exact absurd (ey.symm.trans c28) (by decide)
            · exact ⟨z1, z2⟩
          refine ev_iconst_0 31 d_wt_writesRecord_31 ?_
          refine ev_zret 32 d_wt_writesRecord_32 rfl ?_ ?_
          · rfl
          have hwl2 := wl_sp (k' := k') hwl hka1 (Nat.le_of_lt ham)
          rw [wl_sp (k' := k') hwl2 (by omega) hmk, wl_st _ _ _ _ hf0]
          exact ⟨_, S2, rfl, rfl, hkw.tr hk2, Or.inr ⟨hf0, rfl, hz⟩⟩
  refine ev_iconst_0 0 d_wt_writesRecord_0 ?_
  refine ev_istore_3 1 d_wt_writesRecord_1 ?_ (hn := by exact Nat.le_of_ble_eq_true rfl)
  exact ev_eq (L2 (ct u) 0 (k0 + 1) S F B (by omega) hch (Nat.le_refl _) (wkp.rf J S) rfl R0 (by rw [Nat.sub_self]; rfl))

set_option maxHeartbeats 4000000 in
set_option maxRecDepth 100000 in
theorem ht_wt_writesList {l : Launch} {D : va_G} {tl : List (ClassId × FieldType)} {Z : (Nat → Prop) → State → Heap → Prop} {K : List Nat} {am : Nat → Nat} {ks : Nat → ClassId} {N : Nat → Nat} {S : gS} {k : Nat} (k0 : Nat) (pu : Nat) (to : Nat) {Bs : Nat → Nat → Int32} {i J NT ni n : Nat} {ct dp : Nat → Nat} {pt : Nat → Nat → Nat} {sz al : Nat → Nat} (hd : Nat → Nat) (hZ : ev_Zok Z) (hNw : hc_ZN Z) (C : WC Bs i J NT ni n ct dp pt sz al) {d : Nat} (kI : Nat) (RI : ∀ (u a b to : Nat) (F : Nat → Int32) (B : Nat → Nat → Int32) (S : gS), is_t Bs i ct pt sz d u a b → b ≤ n → u < NT → wi_to B a = nI to → to ≤ 256 → WS K am N hd S Bs F B i J NT ni n ct pt sz a → MT (hc_π l D ks tl Z) (m_wt_writesItem (kI) 0 0) 0 0 [.ref (am 16), .ref (am (100 + 3 * u)), .int (nI to)] (gw K am ks N S) (WQ K am N hd ks S Bs i J NT ni n ct pt sz b (wl i J (b - a) a F B))) {F : Nat → Int32} {B : Nat → Nat → Int32} {k' u hp mn fr : Nat} (W : ww K am N S i J) (hT : TyR K am N S Bs NT ct pt) (hI : IR S Bs i NT n) (hn4 : S.1 16 4 = .int (nI (k0 + 1))) (hM : WM am hd S Bs B i J ni) (h0 : F 54 = 0) (hiv : (wi_l F B i J k0 to hp (mn * sz pu) (al pu) mn fr False).1 54 = 0 → wr_iv Bs NT sz J (wi_l F B i J k0 to hp (mn * sz pu) (al pu) mn fr False).1 (wi_l F B i J k0 to hp (mn * sz pu) (al pu) mn fr False).2 (k0 + 1)) (hhp : S.1 (200 + 20 * J) 2 = .int (nI hp)) (hp2 : hp ≤ 256) (hmn : mn ≤ 65535) (hcnt : S.2.1 13 k0 = nI mn) (hto : to + 4 ≤ 256) (hch : is_c (fun j a b => Bs 46 a = nI k0 ∧ Bs 47 a = nI (j * sz pu) ∧ is_t Bs i ct pt sz d pu a b) mn 0 (k0 + 1) k') (hk' : k' ≤ n) (hpu : pu < NT) (hk8 : Bs 2 u = 8) (hu9 : u < NT) (h44 : Bs 44 k0 = nI u) (hk0 : k0 < 200) (hk00 : 0 < k) (hk1 : 1 < k) (hkI : kI < k) : MT (hc_π l D ks tl Z) (m_wt_writesList k 0 0) 0 0 [.ref (am 16), .int (nI k0), .ref (am (100 + 3 * pu)), .int (nI to)] (gw K am ks N S) (WQ K am N hd ks S Bs i J NT ni n ct pt sz k' (wl i J (k' - (k0 + 1)) (k0 + 1) (wi_l F B i J k0 to hp (mn * sz pu) (al pu) mn fr False).1 (wi_l F B i J k0 to hp (mn * sz pu) (al pu) mn fr False).2)) := by
  refine mt_of pl_wt rfl (Nat.le_of_ble_eq_true rfl) (ev_eq (lv' := [some (.ref (am 16)), some (.int (nI k0)), some (.ref (am (100 + 3 * pu))), some (.int (nI to)), none, none, none]) ?_)
  obtain ⟨⟨hin, hJn, hn6, hiJ⟩, h8, hW, hD, hS, hAl, hn200, hIt, hln⟩ := C
  have hs0 := hS.1 pu hpu
  have hu := mo_ut_le hp (al pu) (by omega)
  have hms : mn * sz pu ≤ 65535 * 96 := Nat.mul_le_mul hmn hs0.2.1
  have L55 : mo_ut hp (al pu) + mn * sz pu ≤ 256 → ∀ (r j a : Nat) (S1 : gS) (F1 : Nat → Int32) (B1 : Nat → Nat → Int32), r + j = mn → is_c (fun j a b => Bs 46 a = nI k0 ∧ Bs 47 a = nI (j * sz pu) ∧ is_t Bs i ct pt sz d pu a b) r j a k' → k0 + 1 ≤ a → wkp J S S1 → S1.1 14 = S.1 14 → WS K am N hd S1 Bs F1 B1 i J NT ni n ct pt sz a → wl i J (a - (k0 + 1)) (k0 + 1) (wi_l F B i J k0 to hp (mn * sz pu) (al pu) mn fr False).1 (wi_l F B i J k0 to hp (mn * sz pu) (al pu) mn fr False).2 = (F1, B1) → EV (hc_π l D ks tl Z) (m_wt_writesList k 0 0) (ev_E (hc_π l D ks tl Z) 0 0 (WQ K am N hd ks S Bs i J NT ni n ct pt sz k' (wl i J (k' - (k0 + 1)) (k0 + 1) (wi_l F B i J k0 to hp (mn * sz pu) (al pu) mn fr False).1 (wi_l F B i J k0 to hp (mn * sz pu) (al pu) mn fr False).2))) 0 0 55 [some (.ref (am 16)), some (.int (nI k0)), some (.ref (am (100 + 3 * pu))), some (.int (nI to)), some (.int (nI mn)), some (.int (nI (mo_ut hp (al pu)))), some (.int (nI j))] [] (gw K am ks N S1) := by
    intro hle r
    obtain ⟨w1, -, -, -, w51, -⟩ := wl_ok (F := F) (B := B) (ii := i) (J := J) (it := k0) (to := to) (mn := mn) (fr := fr) (tx := False) (dx := instDecidableFalse) hle
    induction r with
    | zero =>
      intro j a S1 F1 B1 hj hc hka1 hkw h14 hR hwl
      have hT := hR.2.1
      have W := hR.1
      refine ev_iload_6 55 d_wt_writesList_55 ?_
      refine ev_iload_4 57 d_wt_writesList_57 ?_
      refine ev_icmpge 59 88 d_wt_writesList_59 (fun c59 => ?_) (fun c59 => ?_)
      · refine ev_iconst_1 88 d_wt_writesList_88 ?_
        refine ev_zret 89 d_wt_writesList_89 rfl ?_ ?_
        · rfl
        have hc : a = k' := hc
        subst hc
        rw [hwl]
        exact ⟨_, S1, rfl, rfl, hkw, Or.inl ⟨hR.2.2.2.2.2.1, rfl, h14, hR⟩⟩
      · exact absurd (nI_le (show mn ≤ j by omega) (by omega)) c59
    | succ r ih =>
      intro j a S1 F1 B1 hj hc hka1 hkw h14 hR hwl
      obtain ⟨m9, ⟨p46, p47, pt9⟩, hc2⟩ := hc
      have ham := is_lt _ _ _ _ pt9
      have hmk := is_c_le (fun j a m z => is_lt _ _ a m z.2.2) _ _ _ _ hc2
      obtain ⟨W, hT, hI, hn4, hiv, h054, hM1⟩ := hR
      have hR : WS K am N hd S1 Bs F1 B1 i J NT ni n ct pt sz a := ⟨W, hT, hI, hn4, hiv, h054, hM1⟩
      obtain ⟨uk, hku, hkB, hka, -⟩ := hIt a (by omega)
      obtain ⟨to', ht1, ht2, -⟩ := wr_to hW.1 (by omega) hiv hku hkB hka
      have hwto := wi_to_c hiv.1 p46 hk0 h44 (by have := hW.1; omega)
      have e50 := wl_50 (ii := i) (J := J) (a - (k0 + 1)) (k0 + 1) (wi_l F B i J k0 to hp (mn * sz pu) (al pu) mn fr False).1 (wi_l F B i J k0 to hp (mn * sz pu) (al pu) mn fr False).2 k0 (Nat.lt_succ_self k0)
      rw [hwl] at e50
      dsimp only at e50
      rw [if_pos hk8, e50.2, w51, upd_eq, p47, ht1] at hwto
      refine ev_iload_6 55 d_wt_writesList_55 ?_
      refine ev_iload_4 57 d_wt_writesList_57 ?_
      refine ev_icmpge 59 88 d_wt_writesList_59 (fun c59 => ?_) (fun c59 => ?_)
      · exact absurd (n_le mn j c59) (by omega)
      · refine ev_aload_0 62 d_wt_writesList_62 ?_
        refine ev_aload_2 63 d_wt_writesList_63 ?_
        refine ev_iload_5 64 d_wt_writesList_64 ?_
        refine ev_iload_6 66 d_wt_writesList_66 ?_
        refine ev_aload_2 68 d_wt_writesList_68 ?_
        refine gw_get 69 (100 + 3 * pu) 8 d_wt_writesList_69 lk_wt_30 (hT.k0 hpu) (hT.g0 hpu) (.int (nI (sz pu))) ((hT.f8 hpu).trans (by rw [hs0.1])) ?_
        refine ev_imul 72 d_wt_writesList_72 ?_
        refine ev_iadd 73 d_wt_writesList_73 ?_
        refine ev_topi (nI to') (by rw [hwto]; congr 1; exact (Int32.ofNat_mul j (sz pu)).symm) ?_
        refine gw_callV 74 16 [.ref (am (100 + 3 * pu)), .int (nI to')] [] d_wt_writesList_74 hZ (kc_wt_42 (k9 := kI) (mc9 := 0) (ms9 := 0)) (hr_of hkI (by decide) (by decide) (by decide)) (W.1.2 16 (by decide) (by decide)) rfl rfl (RI (pu) a m9 to' F1 B1 S1 pt9 (by omega) hpu ht1 (by omega) hR) (fun r9 w9 hw => ?_)
        obtain ⟨y, S2, x1, x2, hk2, hb⟩ := hw
        subst x1
        subst x2
        refine ev_eq (st' := [.int y]) ?_
        refine ev_ifne 77 82 d_wt_writesList_77 (fun c77 => ?_) (fun c77 => ?_)
        · obtain ⟨hf0, h142, hR2⟩ : (wl i J (m9 - a) a F1 B1).1 54 = 0 ∧ S2.1 14 = S1.1 14 ∧ WS K am N hd S2 Bs (wl i J (m9 - a) a F1 B1).1 (wl i J (m9 - a) a F1 B1).2 i J NT ni n ct pt sz m9 := by
            rcases hb with ⟨z1, -, z3, z4⟩ | ⟨-, ey, -⟩
            · exact ⟨z1, z3, z4⟩
            · exact absurd ey c77
          refine ev_iinc_6 82 d_wt_writesList_82 ?_ (hn := by exact Nat.le_of_ble_eq_true rfl)
          refine ev_goto 85 55 d_wt_writesList_85 ?_
          have hwl2 := wl_sp (k' := k') hwl hka1 (Nat.le_of_lt ham)
          exact ev_eq (ih (j + 1) m9 S2 _ _ (by omega) hc2 (by omega) (hkw.tr hk2) (h142.trans h14) hR2 hwl2) (h1 := by rw [n_i1])
        · obtain ⟨hf0, hz⟩ : ¬ (wl i J (m9 - a) a F1 B1).1 54 = 0 ∧ (S2.1 14 0 = .int ((wl i J (m9 - a) a F1 B1).1 54) ∧ S2.1 14 1 = .int ((wl i J (m9 - a) a F1 B1).1 55) ∧ (∀ j, j < ni → me_R S2 (wl i J (m9 - a) a F1 B1).2 j) ∧ HA am hd S2 (wl i J (m9 - a) a F1 B1).2 (frB Bs (wl i J (m9 - a) a F1 B1).2) (lnB Bs) ni) := by
            rcases hb with ⟨-, ey, -⟩ | ⟨z1, -, z2⟩
            · exact absurd (ey.symm.trans c77) (by decide)
            · exact ⟨z1, z2⟩
          refine ev_iconst_0 80 d_wt_writesList_80 ?_
          refine ev_zret 81 d_wt_writesList_81 rfl ?_ ?_
          · rfl
          have hwl2 := wl_sp (k' := k') hwl hka1 (Nat.le_of_lt ham)
          rw [wl_sp (k' := k') hwl2 (by omega) hmk, wl_st _ _ _ _ hf0]
          exact ⟨_, S2, rfl, rfl, hkw.tr hk2, Or.inr ⟨hf0, rfl, hz⟩⟩
  refine ev_aload_0 0 d_wt_writesList_0 ?_
  refine gw_get 1 16 2 d_wt_writesList_1 lk_wt_22 (W.1.2 16 (by decide) (by decide)) rfl (.ref (am 10)) W.2.2.1.2.2.1 ?_
  refine gw_get 4 10 2 d_wt_writesList_4 lk_wt_97 (W.1.2 10 (by decide) (by decide)) rfl (.ref (am 13)) W.2.2.2.1.2.2 ?_
  refine ev_iload_1 7 d_wt_writesList_7 ?_
  refine gw_ild (j := k0) 8 13 d_wt_writesList_8 (W.1.2 13 (by decide) (by decide)) rfl (by rw [W.2.1.2.2]; exact hk0) (by rw [W.2.1.2.2]; decide) _ hcnt ?_
  refine ev_istore_4 9 d_wt_writesList_9 ?_ (hn := by exact Nat.le_of_ble_eq_true rfl)
  refine ev_aload_0 11 d_wt_writesList_11 ?_
  refine ev_iload_4 12 d_wt_writesList_12 ?_
  refine ev_aload_2 14 d_wt_writesList_14 ?_
  refine gw_get 15 (100 + 3 * pu) 8 d_wt_writesList_15 lk_wt_30 (hT.k0 hpu) (hT.g0 hpu) (.int (nI (sz pu))) ((hT.f8 hpu).trans (by rw [hs0.1])) ?_
  refine ev_imul 18 d_wt_writesList_18 ?_
  refine ev_aload_2 19 d_wt_writesList_19 ?_
  refine gw_get 20 (100 + 3 * pu) 7 d_wt_writesList_20 lk_wt_35 (hT.k0 hpu) (hT.g0 hpu) (.int (nI (al pu))) ((hT.f7 hpu).trans (by rw [hs0.2.2.1])) ?_
  refine ev_sndi (nI (mn * sz pu)) (Int32.ofNat_mul mn (sz pu)).symm ?_
  refine gw_callV 23 16 [.int (nI (mn * sz pu)), .int (nI (al pu))] [] d_wt_writesList_23 hZ (kc_wt_38 (k9 := 1) (mc9 := 0) (ms9 := 0)) (hr_of hk1 (by decide) (by decide) (by decide)) (W.1.2 16 (by decide) (by decide)) rfl rfl (ht_wt_makeRoom (mn * sz pu) (al pu) hZ hNw W hhp hp2 (hAl pu hpu) (by omega) (by decide)) (fun r9 w9 hw => ?_)
  obtain ⟨y, S9, e1, e2, hb⟩ := hw
  subst e1
  subst e2
  refine ev_eq (st' := [.int y]) ?_
  refine ev_istore_5 26 d_wt_writesList_26 ?_ (hn := by exact Nat.le_of_ble_eq_true rfl)
  refine ev_iload_5 28 d_wt_writesList_28 ?_
  refine ev_iconst_m1 30 d_wt_writesList_30 ?_
  refine ev_icmpne 31 36 d_wt_writesList_31 (fun c31 => ?_) (fun c31 => ?_)
  · obtain ⟨hle, ey, e9⟩ : mo_ut hp (al pu) + mn * sz pu ≤ 256 ∧ y = nI (mo_ut hp (al pu)) ∧ S9 = wrm S J (mo_ut hp (al pu)) (mn * sz pu) := by
      rcases hb with ⟨-, ey, -⟩ | h9
      · exact absurd ey c31
      · exact h9
    subst e9
    subst ey
    have W1 : ww K am N (wrm S J (mo_ut hp (al pu)) (mn * sz pu)) i J := W.wk (wrm_k (wkp.rf J S))
    refine ev_aload_0 36 d_wt_writesList_36 ?_
    refine gw_get 37 16 1 d_wt_writesList_37 lk_wt_19 (W.1.2 16 (by decide) (by decide)) rfl (.ref (am (200 + 20 * J))) W1.2.2.1.2.1 ?_
    refine ev_iload_3 40 d_wt_writesList_40 ?_
    refine ev_iconst_4 41 d_wt_writesList_41 ?_
    refine ev_iload_5 42 d_wt_writesList_42 ?_
    refine ev_iload_4 44 d_wt_writesList_44 ?_
    refine ev_callS 46 [.int (nI (mo_ut hp (al pu))), .int (nI mn)] [.int 4, .int (nI to), .ref (am (200 + 20 * J))] d_wt_writesList_46 hZ (kc_wt_100 (k9 := 0) (mc9 := 0) (ms9 := 0)) (hr_of hk00 (by decide) (by decide) (by decide)) (ht_wt_placeAndCount (nI (mo_ut hp (al pu))) (nI mn)) (fun r9 w9 hw => ?_)
    obtain ⟨e1, e2⟩ := hw
    subst e1
    subst e2
    rw [by_pc (by omega) (by omega)]
    refine ev_eq (st' := [.long (lN (mo_ut hp (al pu) + mn * 65536)), .int 4, .int (nI to), .ref (am (200 + 20 * J))]) ?_
    refine gw_callV 49 (200 + 20 * J) [.int (nI to), .int (nI 4), .long (lN (mo_ut hp (al pu) + mn * 65536))] [] d_wt_writesList_49 hZ (kc_wt_93 (k9 := 1) (mc9 := 0) (ms9 := 0)) (hr_of hk1 (by decide) (by decide) (by decide)) W.2.2.2.2.2.1.1 (gk_in J W.2.2.2.2.2.2).1 rfl (ht_in_storeBytes J to 4 (lN (mo_ut hp (al pu) + mn * 65536)) hZ hNw W.1.1 W.2.2.2.2.2.2 W1.2.2.2.2.2.1 (by omega) (by omega) (by decide)) (fun r9 w9 hw => ?_)
    obtain ⟨e1, e2⟩ := hw
    subst e1
    subst e2
    rw [show min 4 (256 - to) = 4 by omega]
    refine ev_eq (st' := []) ?_
    refine ev_iconst_0 52 d_wt_writesList_52 ?_
    refine ev_istore_6 53 d_wt_writesList_53 ?_ (hn := by exact Nat.le_of_ble_eq_true rfl)
    have kk : wkp J S (hb_sb (wrm S J (mo_ut hp (al pu)) (mn * sz pu)) (201 + 20 * J) to (lN (mo_ut hp (al pu) + mn * 65536)) 4) := wsb_k (wrm_k (wkp.rf J S))
    obtain ⟨w1, -, -, -, -, -⟩ := wl_ok (F := F) (B := B) (ii := i) (J := J) (it := k0) (to := to) (mn := mn) (fr := fr) (tx := False) (dx := instDecidableFalse) hle
    have h054 : (wi_l F B i J k0 to hp (mn * sz pu) (al pu) mn fr False).1 54 = 0 := by rw [w1]; exact h0
    have s1 : (hb_sb (wrm S J (mo_ut hp (al pu)) (mn * sz pu)) (201 + 20 * J) to (lN (mo_ut hp (al pu) + mn * 65536)) 4).1 = (wrm S J (mo_ut hp (al pu)) (mn * sz pu)).1 := (hsb_1 _ _ _ _ _).1
    have R1 : WS K am N hd (hb_sb (wrm S J (mo_ut hp (al pu)) (mn * sz pu)) (201 + 20 * J) to (lN (mo_ut hp (al pu) + mn * 65536)) 4) Bs (wi_l F B i J k0 to hp (mn * sz pu) (al pu) mn fr False).1 (wi_l F B i J k0 to hp (mn * sz pu) (al pu) mn fr False).2 i J NT ni n ct pt sz (k0 + 1) := ⟨W.wk kk, hT.wk kk, hI.wk kk, by rw [s1, wrm, gsG_nj (Or.inl (by omega)), (wz_1 _ _ _ _).1]; exact hn4, hiv h054, h054, hM.li hn6 W.2.2.2.2.2.2 hJn hiJ hto hmn hle⟩
    exact ev_eq (L55 hle mn 0 (k0 + 1) _ _ _ (by omega) hch (Nat.le_refl _) kk (by rw [s1]; funext j9; rw [wrm, gsG_nj (Or.inl (by omega)), (wz_1 _ _ _ _).1]) R1 (by rw [Nat.sub_self]; rfl))
  · obtain ⟨hgt, e9⟩ : 256 < mo_ut hp (al pu) + mn * sz pu ∧ S9 = sp_S S 11 (nI (mo_ut hp (al pu))) := by
      rcases hb with ⟨h1, -, h3⟩ | ⟨h1, ey, -⟩
      · exact ⟨h1, h3⟩
      · exact absurd (ey.symm.trans c31) (n_m1n _ (by omega))
    subst e9
    refine ev_iconst_0 34 d_wt_writesList_34 ?_
    refine ev_zret 35 d_wt_writesList_35 rfl ?_ ?_
    · rfl
    have ex : (wi_l F B i J k0 to hp (mn * sz pu) (al pu) mn fr False) = _ := wl_no (dx := instDecidableFalse) hgt
    have f54 := mo_fl54 h0 11 (nI (mo_ut hp (al pu)))
    rw [ex, wl_st _ _ _ _ (by dsimp only; rw [f54.1]; decide)]
    refine ⟨_, _, rfl, rfl, (wkp.rf J S).sp, Or.inr ⟨by dsimp only; rw [f54.1]; decide, rfl, by dsimp only; rw [f54.1]; exact sp_0 _ _ _, by dsimp only; rw [f54.2]; exact sp_1 _ _ _, fun j hj x hx => ?_, HA.fb (hM.2.2.1.sp hn6) (fun f hf => ?_)⟩⟩
    · dsimp only
      rw [va_up_ne _ _ (by decide), wi_t, va_up_ne _ _ (by decide)]
      exact hM.1 j hj x hx
    · dsimp only
      rw [va_up_ne _ _ (by omega), wi_t, va_up_ne _ _ (by omega)]
