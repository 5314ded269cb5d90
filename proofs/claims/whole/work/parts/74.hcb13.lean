set_option maxHeartbeats 4000000 in
set_option maxRecDepth 100000 in
theorem ht_re_readsList {l : Launch} {D : va_G} {tl : List (ClassId × FieldType)} {Z : (Nat → Prop) → State → Heap → Prop} {K : List Nat} {am : Nat → Nat} {ks : Nat → ClassId} {N : Nat → Nat} {S : gS} {k : Nat} (it : Nat) (t : Nat) (u : Nat) {B0 B : Nat → Nat → Int32} {i NT ni n : Nat} {ct : Nat → Nat} {pt : Nat → Nat → Nat} (hd : Nat → Nat) (hZ : ev_Zok Z) (R0 : RS K am N hd S B0 B i NT ni ct pt n) (ht : t < NT) (f : Int32 → Int32 → Nat → (Nat → Nat → Int32) → rd_R) (kI : Nat) (RI : ∀ (p inn : Int32) (n : Nat) (B : Nat → Nat → Int32) (S : gS), RS K am N hd S B0 B i NT ni ct pt n → MT (hc_π l D ks tl Z) (m_re_readsItem kI 0 0) 0 0 [.ref (am 15), .ref (am (100 + 3 * t)), .ref (am (100 + 3 * u)), .int p] (gw K am ks N S) (RQ K am N hd ks S B0 B i NT ni ct pt n (f p inn n B))) (fr mn sz : Nat) (su : Int32) (hs : B0 4 t = nI sz) (hit : it < n) (hnum : S.2.2.2 12 it = lN fr) (hcnt : S.2.1 13 it = nI mn) (hfr : fr ≤ 65535) (hmn : mn ≤ 65535) (hkI : kI < k) : MT (hc_π l D ks tl Z) (m_re_readsList k 0 0) 0 0 [.ref (am 15), .int (nI it), .ref (am (100 + 3 * t)), .ref (am (100 + 3 * u))] (gw K am ks N S) (RQ K am N hd ks S B0 B i NT ni ct pt n (rd_m f (nI sz) su mn (nI fr) 0 n B)) := by
  refine mt_of pl_re rfl (Nat.le_of_ble_eq_true rfl) (ev_eq (lv' := [some (.ref (am 15)), some (.int (nI it)), some (.ref (am (100 + 3 * t))), some (.ref (am (100 + 3 * u))), none, none]) ?_)
  have L15 : ∀ (r j : Nat) (inn : Int32) (S1 : gS) (B1 : Nat → Nat → Int32) (n1 : Nat), r + j = mn → st_k S B n S1 B1 n1 → RS K am N hd S1 B0 B1 i NT ni ct pt n1 → rd_m f (nI sz) su r (nI (fr + j * sz)) inn n1 B1 = rd_m f (nI sz) su mn (nI fr) 0 n B → EV (hc_π l D ks tl Z) (m_re_readsList k 0 0) (ev_E (hc_π l D ks tl Z) 0 0 (RQ K am N hd ks S B0 B i NT ni ct pt n (rd_m f (nI sz) su mn (nI fr) 0 n B))) 0 0 15 [some (.ref (am 15)), some (.int (nI it)), some (.ref (am (100 + 3 * t))), some (.ref (am (100 + 3 * u))), some (.int (nI fr)), some (.int (nI j))] [] (gw K am ks N S1) := by
    intro r
    induction r with
    | zero =>
      intro j inn S1 B1 n1 hj hst hR hX
      have W := hR.1
      have hn1 := hR.2.2.2.2.2.1
      have hnn := hst.2.2.2.1
      refine ev_iload_5 15 d_re_readsList_15 ?_
      refine ev_aload_0 17 d_re_readsList_17 ?_
      refine gw_get 18 15 1 d_re_readsList_18 lk_re_19 (W.1.2 15 (by decide) (by decide)) rfl (.ref (am 10)) W.2.2.1.2.1 ?_
      refine gw_get 21 10 2 d_re_readsList_21 lk_re_114 (W.1.2 10 (by decide) (by decide)) rfl (.ref (am 13)) W.2.2.2.1.2.2 ?_
      refine ev_iload_1 24 d_re_readsList_24 ?_
      refine gw_ild (j := it) 25 13 d_re_readsList_25 (W.1.2 13 (by decide) (by decide)) rfl (by rw [W.2.1.2.2]; omega) (by rw [W.2.1.2.2]; decide) _ ((hst.2.2.2.2 it hit).2.1.trans hcnt) ?_
      refine ev_icmpge 26 56 d_re_readsList_26 (fun c26 => ?_) (fun c26 => ?_)
      · refine ev_iconst_1 56 d_re_readsList_56 ?_
        refine ev_zret 57 d_re_readsList_57 rfl ?_ ?_
        · rfl
        exact ⟨1, S1, rfl, rfl, Or.inr ⟨(n1, B1), hX.symm, rfl, hst, hR⟩⟩
      · exact absurd (nI_le (show mn ≤ j by omega) (by omega)) c26
    | succ r ih =>
      intro j inn S1 B1 n1 hj hst hR hX
      have W := hR.1
      have hT := hR.2.1
      have hn1 := hR.2.2.2.2.2.1
      have hnn := hst.2.2.2.1
      refine ev_iload_5 15 d_re_readsList_15 ?_
      refine ev_aload_0 17 d_re_readsList_17 ?_
      refine gw_get 18 15 1 d_re_readsList_18 lk_re_19 (W.1.2 15 (by decide) (by decide)) rfl (.ref (am 10)) W.2.2.1.2.1 ?_
      refine gw_get 21 10 2 d_re_readsList_21 lk_re_114 (W.1.2 10 (by decide) (by decide)) rfl (.ref (am 13)) W.2.2.2.1.2.2 ?_
      refine ev_iload_1 24 d_re_readsList_24 ?_
      refine gw_ild (j := it) 25 13 d_re_readsList_25 (W.1.2 13 (by decide) (by decide)) rfl (by rw [W.2.1.2.2]; omega) (by rw [W.2.1.2.2]; decide) _ ((hst.2.2.2.2 it hit).2.1.trans hcnt) ?_
      refine ev_icmpge 26 56 d_re_readsList_26 (fun c26 => ?_) (fun c26 => ?_)
      · exact absurd (n_le mn j c26) (by omega)
      · refine ev_aload_0 29 d_re_readsList_29 ?_
        refine ev_aload_2 30 d_re_readsList_30 ?_
        refine ev_aload_3 31 d_re_readsList_31 ?_
        refine ev_iload_4 32 d_re_readsList_32 ?_
        refine ev_iload_5 34 d_re_readsList_34 ?_
        refine ev_aload_2 36 d_re_readsList_36 ?_
        refine gw_get 37 (100 + 3 * t) 8 d_re_readsList_37 lk_re_93 (hT.k0 ht) (hT.g0 ht) (.int (nI sz)) ((hT.f8 ht).trans (by rw [hs])) ?_
        refine ev_imul 40 d_re_readsList_40 ?_
        refine ev_iadd 41 d_re_readsList_41 ?_
        refine ev_topi (nI (fr + j * sz)) (by rw [← nI_add]; congr 1; exact (Int32.ofNat_mul j sz).symm) ?_
        refine gw_callV 42 15 [.ref (am (100 + 3 * t)), .ref (am (100 + 3 * u)), .int (nI (fr + j * sz))] [] d_re_readsList_42 hZ (kc_re_130 (k9 := kI) (mc9 := 0) (ms9 := 0)) (hr_of hkI (by decide) (by decide) (by decide)) (W.1.2 15 (by decide) (by decide)) rfl rfl (RI (nI (fr + j * sz)) inn n1 B1 S1 hR) (fun r9 w9 hw => ?_)
        obtain ⟨y, S2, e1, e2, hb⟩ := hw
        subst e1
        subst e2
        refine ev_eq (st' := [.int y]) ?_
        refine ev_ifne 45 50 d_re_readsList_45 (fun c45 => ?_) (fun c45 => ?_)
        · obtain ⟨q, hq, hst2, hR2⟩ : ∃ q, f (nI (fr + j * sz)) inn n1 B1 = .inr q ∧ st_k S1 B1 n1 S2 q.2 q.1 ∧ RS K am N hd S2 B0 q.2 i NT ni ct pt q.1 := by
            rcases hb with ⟨e, -, ey, -⟩ | ⟨q, hq, -, h1, h2⟩
            · exact absurd ey c45
            · exact ⟨q, hq, h1, h2⟩
          refine ev_iinc_5 50 d_re_readsList_50 ?_ (hn := by exact Nat.le_of_ble_eq_true rfl)
          refine ev_goto 53 15 d_re_readsList_53 ?_
          refine ev_eq (ih (j + 1) (inn + su) S2 q.2 q.1 (by omega) (hst.tr hst2) hR2 ?_) (h1 := by rw [n_i1])
          rw [← hX, rd_m, hq]
          dsimp only
          rw [nI_add, show fr + j * sz + sz = fr + (j + 1) * sz by rw [Nat.succ_mul]; omega]
        · obtain ⟨e, hq, h1, h2, h3, h4⟩ : ∃ e, f (nI (fr + j * sz)) inn n1 B1 = .inl e ∧ rkp S1 S2 ∧ S2.1 14 0 = .int e.1 ∧ S2.1 14 1 = .int e.2 ∧ ∃ B1, mo_sc B0 B1 ∧ HA am hd S2 B1 fr0 (lnB B1) ni := by
            rcases hb with ⟨e, hq, -, h⟩ | ⟨q, -, ey, -⟩
            · exact ⟨e, hq, h⟩
            · exact absurd (ey.symm.trans c45) (by decide)
          refine ev_iconst_0 48 d_re_readsList_48 ?_
          refine ev_zret 49 d_re_readsList_49 rfl ?_ ?_
          · rfl
          exact RQ.tr hst ⟨_, _, rfl, rfl, Or.inl ⟨e, by rw [← hX, rd_m, hq], rfl, h1, h2, h3, h4⟩⟩
  have W := R0.1
  have hn1 := R0.2.2.2.2.2.1
  refine ev_aload_0 0 d_re_readsList_0 ?_
  refine gw_get 1 15 1 d_re_readsList_1 lk_re_19 (W.1.2 15 (by decide) (by decide)) rfl (.ref (am 10)) W.2.2.1.2.1 ?_
  refine gw_get 4 10 1 d_re_readsList_4 lk_re_108 (W.1.2 10 (by decide) (by decide)) rfl (.ref (am 12)) W.2.2.2.1.2.1 ?_
  refine ev_iload_1 7 d_re_readsList_7 ?_
  refine gw_lld (j := it) 8 12 d_re_readsList_8 (W.1.2 12 (by decide) (by decide)) rfl (by rw [W.2.1.2.1]; omega) (by rw [W.2.1.2.1]; decide) _ hnum ?_
  refine ev_l2i 9 d_re_readsList_9 ?_
  refine ev_topi (nI fr) (lN_32 (by omega)) ?_
  refine ev_istore_4 10 d_re_readsList_10 ?_ (hn := by exact Nat.le_of_ble_eq_true rfl)
  refine ev_iconst_0 12 d_re_readsList_12 ?_
  refine ev_istore_5 13 d_re_readsList_13 ?_ (hn := by exact Nat.le_of_ble_eq_true rfl)
  exact ev_eq (L15 mn 0 0 S B n (by omega) (st_k.rf S B n) R0 (by rw [Nat.zero_mul, Nat.add_zero]))

set_option maxHeartbeats 4000000 in
set_option maxRecDepth 100000 in
theorem ht_re_readsRecord {l : Launch} {D : va_G} {tl : List (ClassId × FieldType)} {Z : (Nat → Prop) → State → Heap → Prop} {K : List Nat} {am : Nat → Nat} {ks : Nat → ClassId} {N : Nat → Nat} {S : gS} {k : Nat} (t : Nat) (u : Nat) (p : Int32) {B0 B : Nat → Nat → Int32} {i NT ni n : Nat} {ct : Nat → Nat} {pt : Nat → Nat → Nat} (hd : Nat → Nat) (hZ : ev_Zok Z) (R0 : RS K am N hd S B0 B i NT ni ct pt n) (ht : t < NT) (hu : u < NT) (g : Nat → Nat → (Nat → Nat → Int32) → rd_R) (kI m : Nat) (hm : B0 7 u = nI m) (hm6 : m ≤ 6) (hmt : m ≤ ct t) (hmu : m ≤ ct u) (hc6 : ct t ≤ 6) (hcu6 : ct u ≤ 6) (RI : ∀ (j : Nat), j < m → ∀ (n : Nat) (B : Nat → Nat → Int32) (S : gS), RS K am N hd S B0 B i NT ni ct pt n → MT (hc_π l D ks tl Z) (m_re_readsItem kI 0 0) 0 0 [.ref (am 15), .ref (am (100 + 3 * pt t j)), .ref (am (100 + 3 * pt u j)), .int (p + B0 9 (6 * t + j))] (gw K am ks N S) (RQ K am N hd ks S B0 B i NT ni ct pt n (g j n B))) (hkI : kI < k) : MT (hc_π l D ks tl Z) (m_re_readsRecord k 0 0) 0 0 [.ref (am 15), .ref (am (100 + 3 * t)), .ref (am (100 + 3 * u)), .int p] (gw K am ks N S) (RQ K am N hd ks S B0 B i NT ni ct pt n (rs_ch g m 0 n B)) := by
  refine mt_of pl_re rfl (Nat.le_of_ble_eq_true rfl) (ev_eq (lv' := [some (.ref (am 15)), some (.ref (am (100 + 3 * t))), some (.ref (am (100 + 3 * u))), some (.int p), none]) ?_)
  have L3 : ∀ (r j : Nat) (S1 : gS) (B1 : Nat → Nat → Int32) (n1 : Nat), r + j = m → st_k S B n S1 B1 n1 → RS K am N hd S1 B0 B1 i NT ni ct pt n1 → rs_ch g r j n1 B1 = rs_ch g m 0 n B → EV (hc_π l D ks tl Z) (m_re_readsRecord k 0 0) (ev_E (hc_π l D ks tl Z) 0 0 (RQ K am N hd ks S B0 B i NT ni ct pt n (rs_ch g m 0 n B))) 0 0 3 [some (.ref (am 15)), some (.ref (am (100 + 3 * t))), some (.ref (am (100 + 3 * u))), some (.int p), some (.int (nI j))] [] (gw K am ks N S1) := by
    intro r
    induction r with
    | zero =>
      intro j S1 B1 n1 hj hst hR hX
      have W := hR.1
      have hT := hR.2.1
      refine ev_iload_4 3 d_re_readsRecord_3 ?_
      refine ev_aload_2 5 d_re_readsRecord_5 ?_
      refine gw_get 6 (100 + 3 * u) 2 d_re_readsRecord_6 lk_re_133 (hT.k0 hu) (hT.g0 hu) (.int (nI m)) ((hT.f2 hu).trans (by rw [hm])) ?_
      refine ev_icmpge 9 50 d_re_readsRecord_9 (fun c9 => ?_) (fun c9 => ?_)
      · refine ev_iconst_1 50 d_re_readsRecord_50 ?_
        refine ev_zret 51 d_re_readsRecord_51 rfl ?_ ?_
        · rfl
        exact ⟨1, S1, rfl, rfl, Or.inr ⟨(n1, B1), hX.symm, rfl, hst, hR⟩⟩
      · exact absurd (nI_le (show m ≤ j by omega) (by omega)) c9
    | succ r ih =>
      intro j S1 B1 n1 hj hst hR hX
      have W := hR.1
      have hT := hR.2.1
      refine ev_iload_4 3 d_re_readsRecord_3 ?_
      refine ev_aload_2 5 d_re_readsRecord_5 ?_
      refine gw_get 6 (100 + 3 * u) 2 d_re_readsRecord_6 lk_re_133 (hT.k0 hu) (hT.g0 hu) (.int (nI m)) ((hT.f2 hu).trans (by rw [hm])) ?_
      refine ev_icmpge 9 50 d_re_readsRecord_9 (fun c9 => ?_) (fun c9 => ?_)
      · exact absurd (n_le m j c9) (by omega)
      · refine ev_aload_0 12 d_re_readsRecord_12 ?_
        refine ev_aload_1 13 d_re_readsRecord_13 ?_
        refine gw_get 14 (100 + 3 * t) 3 d_re_readsRecord_14 lk_re_58 (hT.k0 ht) (hT.g0 ht) (.ref (am (101 + 3 * t))) (hT.f3 ht) ?_
        refine ev_iload_4 17 d_re_readsRecord_17 ?_
        refine gw_qld (j := j) 19 (101 + 3 * t) d_re_readsRecord_19 (hT.k1 ht) (hT.g1 ht) (by rw [hT.n1 ht]; omega) (by rw [hT.n1 ht]; omega) _ (hT.pq ht (by omega)) ?_
        refine ev_aload_2 20 d_re_readsRecord_20 ?_
        refine gw_get 21 (100 + 3 * u) 3 d_re_readsRecord_21 lk_re_58 (hT.k0 hu) (hT.g0 hu) (.ref (am (101 + 3 * u))) (hT.f3 hu) ?_
        refine ev_iload_4 24 d_re_readsRecord_24 ?_
        refine gw_qld (j := j) 26 (101 + 3 * u) d_re_readsRecord_26 (hT.k1 hu) (hT.g1 hu) (by rw [hT.n1 hu]; omega) (by rw [hT.n1 hu]; omega) _ (hT.pq hu (by omega)) ?_
        refine ev_iload_3 27 d_re_readsRecord_27 ?_
        refine ev_aload_1 28 d_re_readsRecord_28 ?_
        refine gw_get 29 (100 + 3 * t) 4 d_re_readsRecord_29 lk_re_136 (hT.k0 ht) (hT.g0 ht) (.ref (am (102 + 3 * t))) (hT.f4 ht) ?_
        refine ev_iload_4 32 d_re_readsRecord_32 ?_
        refine gw_ild (j := j) 34 (102 + 3 * t) d_re_readsRecord_34 (hT.k2 ht) (hT.g2 ht) (by rw [hT.n2 ht]; omega) (by rw [hT.n2 ht]; omega) _ (hT.oq ht (by omega)) ?_
        refine ev_iadd 35 d_re_readsRecord_35 ?_
        refine gw_callV 36 15 [.ref (am (100 + 3 * pt t j)), .ref (am (100 + 3 * pt u j)), .int (p + B0 9 (6 * t + j))] [] d_re_readsRecord_36 hZ (kc_re_130 (k9 := kI) (mc9 := 0) (ms9 := 0)) (hr_of hkI (by decide) (by decide) (by decide)) (W.1.2 15 (by decide) (by decide)) rfl rfl (RI j (by omega) n1 B1 S1 hR) (fun r9 w9 hw => ?_)
        obtain ⟨y, S2, e1, e2, hb⟩ := hw
        subst e1
        subst e2
        refine ev_eq (st' := [.int y]) ?_
        refine ev_ifne 39 44 d_re_readsRecord_39 (fun c39 => ?_) (fun c39 => ?_)
        · obtain ⟨q, hq, hst2, hR2⟩ : ∃ q, g j n1 B1 = .inr q ∧ st_k S1 B1 n1 S2 q.2 q.1 ∧ RS K am N hd S2 B0 q.2 i NT ni ct pt q.1 := by
            rcases hb with ⟨e, -, ey, -⟩ | ⟨q, hq, -, h1, h2⟩
            · exact absurd ey c39
            · exact ⟨q, hq, h1, h2⟩
          refine ev_iinc_4 44 d_re_readsRecord_44 ?_ (hn := by exact Nat.le_of_ble_eq_true rfl)
          refine ev_goto 47 3 d_re_readsRecord_47 ?_
          refine ev_eq (ih (j + 1) S2 q.2 q.1 (by omega) (hst.tr hst2) hR2 ?_) (h1 := by rw [n_i1])
          rw [← hX, rs_ch, hq]
        · obtain ⟨e, hq, h1, h2, h3, h4⟩ : ∃ e, g j n1 B1 = .inl e ∧ rkp S1 S2 ∧ S2.1 14 0 = .int e.1 ∧ S2.1 14 1 = .int e.2 ∧ ∃ B1, mo_sc B0 B1 ∧ HA am hd S2 B1 fr0 (lnB B1) ni := by
            rcases hb with ⟨e, hq, -, h⟩ | ⟨q, -, ey, -⟩
            · exact ⟨e, hq, h⟩
            · exact absurd (ey.symm.trans c39) (by decide)
          refine ev_iconst_0 42 d_re_readsRecord_42 ?_
          refine ev_zret 43 d_re_readsRecord_43 rfl ?_ ?_
          · rfl
          exact RQ.tr hst ⟨_, _, rfl, rfl, Or.inl ⟨e, by rw [← hX, rs_ch, hq], rfl, h1, h2, h3, h4⟩⟩
  refine ev_iconst_0 0 d_re_readsRecord_0 ?_
  refine ev_istore_4 1 d_re_readsRecord_1 ?_ (hn := by exact Nat.le_of_ble_eq_true rfl)
  exact ev_eq (L3 m 0 S B n (by omega) (st_k.rf S B n) R0 rfl)

theorem rq_n {x : rd_R} {y : Int32} {P : Int32 × Int32 → Prop} {Q : Nat × (Nat → Nat → Int32) → Prop} (h : (∃ e, x = .inl e ∧ y = 0 ∧ P e) ∨ (∃ q, x = .inr q ∧ y = 1 ∧ Q q)) : narrow .boolean (.int y) = .int y := by
  rcases h with ⟨_, _, rfl, _⟩ | ⟨_, _, rfl, _⟩ <;> rfl

set_option maxHeartbeats 4000000 in
set_option maxRecDepth 100000 in
theorem ht_re_readsVariant {l : Launch} {D : va_G} {tl : List (ClassId × FieldType)} {Z : (Nat → Prop) → State → Heap → Prop} {K : List Nat} {am : Nat → Nat} {ks : Nat → ClassId} {N : Nat → Nat} {S : gS} {k : Nat} (it : Nat) (t : Nat) (u : Nat) (p : Int32) {B0 B : Nat → Nat → Int32} {i NT ni n1 : Nat} {ct : Nat → Nat} {pt : Nat → Nat → Nat} (hd : Nat → Nat) (hZ : ev_Zok Z) (hNw : hc_ZN Z) (W : rd_w K am N S i) (hM : me_R S B0 i) (hT : TyR K am N S B0 NT ct pt) (hsc : mo_sc B0 B) (hA : HA am hd S B fr0 (lnB B) ni) (hn6 : ni ≤ 6) (h8 : mo_b8 B0) (ht : t < NT) (hu : u < NT) (hc7 : B0 7 t = nI (ct t)) (hc6 : ct t ≤ 6) (hcu : ct t ≤ ct u) (hcu6 : ct u ≤ 6) (hit : it < 200) (hn1 : n1 = it + 1) (hmk : ¬ (p < 0 ∨ 255 < p) → RS K am N hd (gsL (gsG S 15 3 (.long (lN (bb B0 i p)))) 12 it (lN (bb B0 i p))) B0 B i NT ni ct pt n1) (g : Nat → Nat → (Nat → Nat → Int32) → rd_R) (kI : Nat) (X : rd_R) (hX0 : (p < 0 ∨ 255 < p) → X = .inl (1, p)) (hX1 : ¬ (p < 0 ∨ 255 < p) → ¬ bb B0 i p < ct t → X = .inl (2, p)) (hX2 : ¬ (p < 0 ∨ 255 < p) → bb B0 i p < ct t → X = g (bb B0 i p) n1 B) (RI : ∀ (j : Nat), j < ct t → ∀ (n : Nat) (B : Nat → Nat → Int32) (S : gS), RS K am N hd S B0 B i NT ni ct pt n → MT (hc_π l D ks tl Z) (m_re_readsItem kI 0 0) 0 0 [.ref (am 15), .ref (am (100 + 3 * pt t j)), .ref (am (100 + 3 * pt u j)), .int (p + B0 9 (6 * t + j))] (gw K am ks N S) (RQ K am N hd ks S B0 B i NT ni ct pt n (g j n B))) (hk0 : 0 < k) (hk2 : 2 < k) (hkI : kI < k) : MT (hc_π l D ks tl Z) (m_re_readsVariant k 0 0) 0 0 [.ref (am 15), .int (nI it), .ref (am (100 + 3 * t)), .ref (am (100 + 3 * u)), .int p] (gw K am ks N S) (RQ K am N hd ks S B0 B i NT ni ct pt it (X)) := by
  refine mt_of pl_re rfl (Nat.le_of_ble_eq_true rfl) (ev_eq (lv' := [some (.ref (am 15)), some (.int (nI it)), some (.ref (am (100 + 3 * t))), some (.ref (am (100 + 3 * u))), some (.int p), none]) ?_)
  refine ev_aload_0 0 d_re_readsVariant_0 ?_
  refine ev_iload_4 1 d_re_readsVariant_1 ?_
  refine ev_iconst_1 3 d_re_readsVariant_3 ?_
  refine gw_callV 4 15 [.int p, .int 1] [] d_re_readsVariant_4 hZ (kc_re_96 (k9 := 2) (mc9 := 0) (ms9 := 0)) (hr_of hk2 (by decide) (by decide) (by decide)) (W.1.2 15 (by decide) (by decide)) rfl rfl (ht_re_readsBytes p 1 hZ hNw W hM h8 (by omega) (by decide)) (fun r9 w9 hw => ?_)
  obtain ⟨y, S9, e1, e2, hb9⟩ := hw
  subst e1
  subst e2
  refine ev_eq (st' := [.int y]) ?_
  refine ev_ifne 7 12 d_re_readsVariant_7 (fun c7 => ?_) (fun c7 => ?_)
  · obtain ⟨hr, e9⟩ : mo_rg p 1 = none ∧ S9 = gsG S 15 3 (.long (lN (by_w B0 i p 1))) := by
      rcases hb9 with ⟨q, v, h1, h2, h3⟩ | ⟨h1, h2, h3⟩
      · exact absurd h2 c7
      · exact ⟨h1, h3⟩
    subst e9
    obtain ⟨-, gp⟩ := rg_in hr
    rw [n_a0] at gp
    obtain ⟨g1, g2⟩ := bb_p h8 W.2.2.2.2.2 gp
    have eb : by_w B0 i p 1 = bb B0 i p := by rw [by_w, by_w, n_a0]; simp
    rw [eb]
    have k1 : rkp S (gsG S 15 3 (.long (lN (bb B0 i p)))) := (rkp.rf S).by
    have W1 := W.rk k1
    refine ev_aload_0 12 d_re_readsVariant_12 ?_
    refine gw_get 13 15 3 d_re_readsVariant_13 lk_re_9 (W.1.2 15 (by decide) (by decide)) rfl (.long (lN (bb B0 i p))) (gsG_eq _ _ _ _) ?_
    refine ev_l2i 16 d_re_readsVariant_16 ?_
    refine ev_topi (nI (bb B0 i p)) (lN_32 (by omega)) ?_
    refine ev_istore_5 17 d_re_readsVariant_17 ?_ (hn := by exact Nat.le_of_ble_eq_true rfl)
    refine ev_iload_5 19 d_re_readsVariant_19 ?_
    refine ev_aload_2 21 d_re_readsVariant_21 ?_
    refine gw_get 22 (100 + 3 * t) 2 d_re_readsVariant_22 lk_re_133 (hT.k0 ht) (hT.g0 ht) (.int (nI (ct t))) (((hT.rk k1).f2 ht).trans (by rw [hc7])) ?_
    refine ev_icmplt 25 39 d_re_readsVariant_25 (fun c25 => ?_) (fun c25 => ?_)
    · have hlt : bb B0 i p < ct t := n_lt (bb B0 i p) (ct t) c25
      have hR := hmk gp
      have hT2 := hR.2.1
      refine ev_aload_0 39 d_re_readsVariant_39 ?_
      refine gw_get 40 15 1 d_re_readsVariant_40 lk_re_19 (W.1.2 15 (by decide) (by decide)) rfl (.ref (am 10)) W1.2.2.1.2.1 ?_
      refine gw_get 43 10 1 d_re_readsVariant_43 lk_re_108 (W.1.2 10 (by decide) (by decide)) rfl (.ref (am 12)) W1.2.2.2.1.2.1 ?_
      refine ev_iload_1 46 d_re_readsVariant_46 ?_
      refine ev_iload_5 47 d_re_readsVariant_47 ?_
      refine ev_i2l 49 d_re_readsVariant_49 ?_
      refine ev_eq (st' := [.long (lN (bb B0 i p)), .int (nI it), .ref (am 12)]) ?_ (h2 := by rw [nI_l (by omega)])
      refine gw_lst (j := it) 50 12 d_re_readsVariant_50 W.1.1 (W.1.2 12 (by decide) (by decide)) rfl (by rw [W.2.1.2.1]; exact hit) (by rw [W.2.1.2.1]; decide) ?_
      refine ev_aload_0 51 d_re_readsVariant_51 ?_
      refine ev_aload_2 52 d_re_readsVariant_52 ?_
      refine gw_get 53 (100 + 3 * t) 3 d_re_readsVariant_53 lk_re_58 (hT.k0 ht) (hT.g0 ht) (.ref (am (101 + 3 * t))) (hT2.f3 ht) ?_
      refine ev_iload_5 56 d_re_readsVariant_56 ?_
      refine gw_qld (j := bb B0 i p) 58 (101 + 3 * t) d_re_readsVariant_58 (hT.k1 ht) (hT.g1 ht) (by rw [hT.n1 ht]; omega) (by rw [hT.n1 ht]; omega) _ (hT2.pq ht (by omega)) ?_
      refine ev_aload_3 59 d_re_readsVariant_59 ?_
      refine gw_get 60 (100 + 3 * u) 3 d_re_readsVariant_60 lk_re_58 (hT.k0 hu) (hT.g0 hu) (.ref (am (101 + 3 * u))) (hT2.f3 hu) ?_
      refine ev_iload_5 63 d_re_readsVariant_63 ?_
      refine gw_qld (j := bb B0 i p) 65 (101 + 3 * u) d_re_readsVariant_65 (hT.k1 hu) (hT.g1 hu) (by rw [hT.n1 hu]; omega) (by rw [hT.n1 hu]; omega) _ (hT2.pq hu (by omega)) ?_
      refine ev_iload_4 66 d_re_readsVariant_66 ?_
      refine ev_aload_2 68 d_re_readsVariant_68 ?_
      refine gw_get 69 (100 + 3 * t) 4 d_re_readsVariant_69 lk_re_136 (hT.k0 ht) (hT.g0 ht) (.ref (am (102 + 3 * t))) (hT2.f4 ht) ?_
      refine ev_iload_5 72 d_re_readsVariant_72 ?_
      refine gw_ild (j := bb B0 i p) 74 (102 + 3 * t) d_re_readsVariant_74 (hT.k2 ht) (hT.g2 ht) (by rw [hT.n2 ht]; omega) (by rw [hT.n2 ht]; omega) _ (hT2.oq ht (by omega)) ?_
      refine ev_iadd 75 d_re_readsVariant_75 ?_
      refine gw_callV 76 15 [.ref (am (100 + 3 * pt t (bb B0 i p))), .ref (am (100 + 3 * pt u (bb B0 i p))), .int (p + B0 9 (6 * t + bb B0 i p))] [] d_re_readsVariant_76 hZ (kc_re_130 (k9 := kI) (mc9 := 0) (ms9 := 0)) (hr_of hkI (by decide) (by decide) (by decide)) (W.1.2 15 (by decide) (by decide)) rfl rfl (RI (bb B0 i p) hlt n1 B _ hR) (fun r9 w9 hw => ?_)
      obtain ⟨y, S2, e1, e2, hb⟩ := hw
      subst e1
      subst e2
      refine ev_eq (st' := [.int y]) ?_
      refine ev_zret 79 d_re_readsVariant_79 rfl ?_ ?_
      · first | rfl | exact rq_n hb
      have hs9 : st_k S B it (gsL (gsG S 15 3 (.long (lN (bb B0 i p)))) 12 it (lN (bb B0 i p))) B n1 := ⟨k1.l, funext (fun j9 => gsG_nj (S := S) (k := 15) (j := 3) (k' := 14) (j' := j9) (v := .long (lN (bb B0 i p))) (Or.inl (by decide))), kp.rf _ _, by omega, fun k hk => ⟨rfl, rfl, gsL_nj (gsG S 15 3 (.long (lN (bb B0 i p)))) 12 it _ (Or.inr (by omega))⟩⟩
      rw [hX2 gp hlt]
      exact RQ.tr hs9 ⟨y, S2, rfl, rfl, hb⟩
    · refine ev_aload_0 28 d_re_readsVariant_28 ?_
      refine gw_get 29 15 2 d_re_readsVariant_29 lk_re_23 (W.1.2 15 (by decide) (by decide)) rfl (.ref (am 14)) W1.2.2.1.2.2 ?_
      refine ev_iconst_2 32 d_re_readsVariant_32 ?_
      refine ev_iload_4 33 d_re_readsVariant_33 ?_
      refine gw_callV 35 14 [.int 2, .int p] [] d_re_readsVariant_35 hZ (kc_re_33 (k9 := 0) (mc9 := 0) (ms9 := 0)) (hr_of hk0 (by decide) (by decide) (by decide)) (W.1.2 14 (by decide) (by decide)) rfl rfl (ht_tr_springs 2 p W.1.1 (W.1.2 14 (by decide) (by decide))) (fun r9 w9 hw => ?_)
      obtain ⟨e1, e2⟩ := hw
      subst e1
      subst e2
      refine ev_eq (st' := [.int 0]) ?_
      refine ev_zret 38 d_re_readsVariant_38 rfl ?_ ?_
      · first | rfl | exact rq_n hb
      exact ⟨_, _, rfl, rfl, Or.inl ⟨(2, p), hX1 gp (fun z => c25 (nI_lt z (by omega))), rfl, k1.sp, sp_0 _ _ _, sp_1 _ _ _, B, hsc, (hA.by hn6).sp hn6⟩⟩
  · obtain ⟨q, v, hr, e9⟩ : ∃ q v, mo_rg p 1 = some q ∧ S9 = sp_S (gsG S 15 3 v) 1 q := by
      rcases hb9 with ⟨q, v, h1, h2, h3⟩ | ⟨h1, h2, h3⟩
      · exact ⟨q, v, h1, h3⟩
      · exact absurd (h2.symm.trans c7) (by decide)
    subst e9
    have hp : (p < 0 ∨ 255 < p) ∧ p = q := by
      rw [mo_rg, show mo_rg p 0 = none from rfl] at hr
      dsimp only at hr
      rw [n_a0] at hr
      split at hr
      · rename_i z; exact ⟨z, Option.some.inj hr⟩
      · cases hr
    obtain ⟨hp, eq9⟩ := hp
    subst eq9
    refine ev_iconst_0 10 d_re_readsVariant_10 ?_
    refine ev_zret 11 d_re_readsVariant_11 rfl ?_ ?_
    · first | rfl | exact rq_n hb
    exact ⟨_, _, rfl, rfl, Or.inl ⟨(1, p), hX0 hp, rfl, (rkp.by (rkp.rf S)).sp, sp_0 _ _ _, sp_1 _ _ _, B, hsc, (hA.by hn6).sp hn6⟩⟩
