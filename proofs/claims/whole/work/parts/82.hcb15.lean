set_option maxHeartbeats 4000000 in
set_option maxRecDepth 100000 in
theorem ht_wt_makeRoom {l : Launch} {D : va_G} {tl : List (ClassId × FieldType)} {Z : (Nat → Prop) → State → Heap → Prop} {K : List Nat} {am : Nat → Nat} {ks : Nat → ClassId} {N : Nat → Nat} {S : gS} {k : Nat} (k9 : Nat) (al : Nat) {i J : Nat} (hZ : ev_Zok Z) (hNw : hc_ZN Z) (W : ww K am N S i J) {hp : Nat} (hhp : S.1 (200 + 20 * J) 2 = .int (nI hp)) (hp2 : hp ≤ 256) (hal : al = 1 ∨ al = 2 ∨ al = 4 ∨ al = 8) (hk9 : k9 ≤ 100000000) (hk0 : 0 < k) : MT (hc_π l D ks tl Z) (m_wt_makeRoom k 0 0) 0 0 [.ref (am 16), .int (nI k9), .int (nI al)] (gw K am ks N S) (fun r w => ∃ y S1, w = gw K am ks N S1 ∧ r = some (.int y) ∧ ((256 < mo_ut hp al + k9 ∧ y = -1 ∧ S1 = sp_S S 11 (nI (mo_ut hp al))) ∨ (mo_ut hp al + k9 ≤ 256 ∧ y = nI (mo_ut hp al) ∧ S1 = wrm S J (mo_ut hp al) k9))) := by
  refine mt_of pl_wt rfl (Nat.le_of_ble_eq_true rfl) (ev_eq (lv' := [some (.ref (am 16)), some (.int (nI k9)), some (.int (nI al)), none, none]) ?_)
  have hu := mo_ut_le hp al (by omega)
  have L37 : mo_ut hp al + k9 ≤ 256 → ∀ m j : Nat, k9 - j < m → j ≤ k9 → EV (hc_π l D ks tl Z) (m_wt_makeRoom k 0 0) (ev_E (hc_π l D ks tl Z) 0 0 (fun r w => ∃ y S1, w = gw K am ks N S1 ∧ r = some (.int y) ∧ ((256 < mo_ut hp al + k9 ∧ y = -1 ∧ S1 = sp_S S 11 (nI (mo_ut hp al))) ∨ (mo_ut hp al + k9 ≤ 256 ∧ y = nI (mo_ut hp al) ∧ S1 = wrm S J (mo_ut hp al) k9)))) 0 0 37 [some (.ref (am 16)), some (.int (nI k9)), some (.int (nI al)), some (.int (nI (mo_ut hp al))), some (.int (nI (mo_ut hp al + j)))] [] (gw K am ks N (wz S (201 + 20 * J) (mo_ut hp al) j)) := by
    intro hle m
    induction m with
    | zero => intro j h; omega
    | succ m ih =>
      intro j hm hj
      have z1 := (wz_1 S (201 + 20 * J) (mo_ut hp al) j).1
      refine ev_iload_4 37 d_wt_makeRoom_37 ?_
      refine ev_iload_3 39 d_wt_makeRoom_39 ?_
      refine ev_iload_1 40 d_wt_makeRoom_40 ?_
      refine ev_iadd 41 d_wt_makeRoom_41 ?_
      refine ev_topi (nI (mo_ut hp al + k9)) (nI_add _ _) ?_
      refine ev_icmpge 42 62 d_wt_makeRoom_42 (fun c42 => ?_) (fun c42 => ?_)
      · have h42 := n_le (mo_ut hp al + k9) (mo_ut hp al + j) c42
        obtain rfl : j = k9 := by omega
        refine ev_aload_0 62 d_wt_makeRoom_62 ?_
        refine gw_get 63 16 1 d_wt_makeRoom_63 lk_wt_19 (W.1.2 16 (by decide) (by decide)) rfl (.ref (am (200 + 20 * J))) (by rw [z1]; exact W.2.2.1.2.1) ?_
        refine ev_iload_3 66 d_wt_makeRoom_66 ?_
        refine ev_iload_1 67 d_wt_makeRoom_67 ?_
        refine ev_iadd 68 d_wt_makeRoom_68 ?_
        refine ev_topi (nI (mo_ut hp al + j)) (nI_add _ _) ?_
        refine gw_put 69 (200 + 20 * J) 2 d_wt_makeRoom_69 lp_wt_46 W.1.1 W.2.2.2.2.2.1.1 (gk_in J W.2.2.2.2.2.2).1 (vp_nar_int _) rfl ?_
        refine ev_iload_3 72 d_wt_makeRoom_72 ?_
        refine ev_iret 73 d_wt_makeRoom_73 rfl ?_
        exact ⟨_, _, rfl, rfl, Or.inr ⟨hle, rfl, rfl⟩⟩
      · have h42 := n_nle (mo_ut hp al + k9) (mo_ut hp al + j) c42
        refine ev_aload_0 45 d_wt_makeRoom_45 ?_
        refine gw_get 46 16 1 d_wt_makeRoom_46 lk_wt_19 (W.1.2 16 (by decide) (by decide)) rfl (.ref (am (200 + 20 * J))) (by rw [z1]; exact W.2.2.1.2.1) ?_
        refine gw_get 49 (200 + 20 * J) 0 d_wt_makeRoom_49 lk_wt_60 W.2.2.2.2.2.1.1 (gk_in J W.2.2.2.2.2.2).1 (.ref (am (201 + 20 * J))) (by rw [z1]; exact W.2.2.2.2.2.1.2.2.2.1) ?_
        refine ev_iload_4 52 d_wt_makeRoom_52 ?_
        refine ev_iconst_0 54 d_wt_makeRoom_54 ?_
        refine gw_ist (j := mo_ut hp al + j) 55 (201 + 20 * J) d_wt_makeRoom_55 W.1.1 W.2.2.2.2.2.1.2.1 (gk_in J W.2.2.2.2.2.2).2.1 (by rw [W.2.2.2.2.2.1.2.2.2.2.2.1]; omega) (by rw [W.2.2.2.2.2.1.2.2.2.2.2.1]; decide) ?_
        refine ev_iinc_4 56 d_wt_makeRoom_56 ?_ (hn := by exact Nat.le_of_ble_eq_true rfl)
        refine ev_goto 59 37 d_wt_makeRoom_59 ?_
        exact ev_eq (ih (j + 1) (by omega) (by omega)) (h1 := by rw [n_i1, Nat.add_assoc])
  refine ev_aload_0 0 d_wt_makeRoom_0 ?_
  refine gw_get 1 16 1 d_wt_makeRoom_1 lk_wt_19 (W.1.2 16 (by decide) (by decide)) rfl (.ref (am (200 + 20 * J))) W.2.2.1.2.1 ?_
  refine gw_get 4 (200 + 20 * J) 2 d_wt_makeRoom_4 lk_wt_46 W.2.2.2.2.2.1.1 (gk_in J W.2.2.2.2.2.2).1 (.int (nI hp)) hhp ?_
  refine ev_iload_2 7 d_wt_makeRoom_7 ?_
  refine ev_callSN 8 [.int (nI hp), .int (nI al)] [] d_wt_makeRoom_8 hZ (kn_wt_51 (k9 := 0) (mc9 := 0) (ms9 := 0) hNw) (hr_of hk0 (by decide) (by decide) (by decide)) (ht_hc_alignedFrom (nI hp) (nI al)) (fun r9 w9 hw => ?_)
  obtain ⟨e1, y, e2, hy⟩ := hw
  subst e1
  subst e2
  rw [ar_ut hp hal (by omega)] at hy
  subst hy
  refine ev_eq (st' := [.int (nI (mo_ut hp al))]) ?_
  refine ev_istore_3 11 d_wt_makeRoom_11 ?_ (hn := by exact Nat.le_of_ble_eq_true rfl)
  refine ev_iload_3 12 d_wt_makeRoom_12 ?_
  refine ev_iload_1 13 d_wt_makeRoom_13 ?_
  refine ev_iadd 14 d_wt_makeRoom_14 ?_
  refine ev_sipush (256) 15 d_wt_makeRoom_15 (by decide) ?_
  refine ev_sndi (nI (mo_ut hp al + k9)) (nI_add _ _) ?_
  refine ev_icmple 18 34 d_wt_makeRoom_18 (fun c18 => ?_) (fun c18 => ?_)
  · have h18 := n_le (mo_ut hp al + k9) 256 c18
    refine ev_iload_3 34 d_wt_makeRoom_34 ?_
    refine ev_istore_4 35 d_wt_makeRoom_35 ?_ (hn := by exact Nat.le_of_ble_eq_true rfl)
    exact ev_eq (L37 (by omega) (k9 + 1) 0 (by omega) (by omega))
  · have h18 := n_nle (mo_ut hp al + k9) 256 c18
    refine ev_aload_0 21 d_wt_makeRoom_21 ?_
    refine gw_get 22 16 3 d_wt_makeRoom_22 lk_wt_26 (W.1.2 16 (by decide) (by decide)) rfl (.ref (am 14)) W.2.2.1.2.2.2 ?_
    refine ev_bipush (11) 25 d_wt_makeRoom_25 (by decide) ?_
    refine ev_iload_3 27 d_wt_makeRoom_27 ?_
    refine gw_callV 28 14 [.int 11, .int (nI (mo_ut hp al))] [] d_wt_makeRoom_28 hZ (kc_wt_54 (k9 := 0) (mc9 := 0) (ms9 := 0)) (hr_of hk0 (by decide) (by decide) (by decide)) (W.1.2 14 (by decide) (by decide)) rfl rfl (ht_tr_springs 11 (nI (mo_ut hp al)) W.1.1 (W.1.2 14 (by decide) (by decide))) (fun r9 w9 hw => ?_)
    obtain ⟨e1, e2⟩ := hw
    subst e1
    subst e2
    refine ev_eq (st' := [.int 0]) ?_
    refine ev_pop_i 31 d_wt_makeRoom_31 ?_
    refine ev_iconst_m1 32 d_wt_makeRoom_32 ?_
    refine ev_iret 33 d_wt_makeRoom_33 rfl ?_
    exact ⟨_, _, rfl, rfl, Or.inl ⟨h18, rfl, rfl⟩⟩

set_option maxHeartbeats 4000000 in
set_option maxRecDepth 100000 in
theorem ht_wt_writesText {l : Launch} {D : va_G} {tl : List (ClassId × FieldType)} {Z : (Nat → Prop) → State → Heap → Prop} {K : List Nat} {am : Nat → Nat} {ks : Nat → ClassId} {N : Nat → Nat} {S : gS} {k : Nat} (it : Nat) (to : Nat) {i J : Nat} (hZ : ev_Zok Z) (hNw : hc_ZN Z) (W : ww K am N S i J) (hiJ : i ≠ J) {hp fr mn : Nat} (hhp : S.1 (200 + 20 * J) 2 = .int (nI hp)) (hp2 : hp ≤ 256) (hit : it < 200) (hnum : S.2.2.2 12 it = lN fr) (hcnt : S.2.1 13 it = nI mn) (hfr : fr ≤ 65535) (hmn : mn ≤ 65535) (hfm : mn = 0 ∨ fr + mn ≤ 256) (hto : to + 4 ≤ 256) (hk0 : 0 < k) (hk1 : 1 < k) : MT (hc_π l D ks tl Z) (m_wt_writesText k 0 0) 0 0 [.ref (am 16), .int (nI it), .int (nI to)] (gw K am ks N S) (fun r w => ∃ y S1, w = gw K am ks N S1 ∧ r = some (.int y) ∧ ((256 < mo_ut hp 1 + mn ∧ y = 0 ∧ S1 = sp_S S 11 (nI (mo_ut hp 1))) ∨ (mo_ut hp 1 + mn ≤ 256 ∧ y = 1 ∧ S1 = wcp (hb_sb (wrm S J (mo_ut hp 1) mn) (201 + 20 * J) to (lN (mo_ut hp 1 + mn * 65536)) 4) (201 + 20 * J) (201 + 20 * i) (mo_ut hp 1) fr mn))) := by
  refine mt_of pl_wt rfl (Nat.le_of_ble_eq_true rfl) (ev_eq (lv' := [some (.ref (am 16)), some (.int (nI it)), some (.int (nI to)), none, none, none, none]) ?_)
  have L56 : mo_ut hp 1 + mn ≤ 256 → ∀ m j : Nat, mn - j < m → j ≤ mn → EV (hc_π l D ks tl Z) (m_wt_writesText k 0 0) (ev_E (hc_π l D ks tl Z) 0 0 (fun r w => ∃ y S1, w = gw K am ks N S1 ∧ r = some (.int y) ∧ ((256 < mo_ut hp 1 + mn ∧ y = 0 ∧ S1 = sp_S S 11 (nI (mo_ut hp 1))) ∨ (mo_ut hp 1 + mn ≤ 256 ∧ y = 1 ∧ S1 = wcp (hb_sb (wrm S J (mo_ut hp 1) mn) (201 + 20 * J) to (lN (mo_ut hp 1 + mn * 65536)) 4) (201 + 20 * J) (201 + 20 * i) (mo_ut hp 1) fr mn)))) 0 0 56 [some (.ref (am 16)), some (.int (nI it)), some (.int (nI to)), some (.int (nI mn)), some (.int (nI (mo_ut hp 1))), some (.int (nI fr)), some (.int (nI j))] [] (gw K am ks N (wcp (hb_sb (wrm S J (mo_ut hp 1) mn) (201 + 20 * J) to (lN (mo_ut hp 1 + mn * 65536)) 4) (201 + 20 * J) (201 + 20 * i) (mo_ut hp 1) fr j)) := by
    intro hle m
    have hkw : wkp J S (hb_sb (wrm S J (mo_ut hp 1) mn) (201 + 20 * J) to (lN (mo_ut hp 1 + mn * 65536)) 4) := wsb_k (wrm_k (wkp.rf J S))
    induction m with
    | zero => intro j h; omega
    | succ m ih =>
      intro j hm hj
      have W := W.wk (wcp_k (s := 201 + 20 * i) (pl := mo_ut hp 1) (fr := fr) (n := j) hkw)
      refine ev_iload_6 56 d_wt_writesText_56 ?_
      refine ev_iload_3 58 d_wt_writesText_58 ?_
      refine ev_icmpge 59 94 d_wt_writesText_59 (fun c59 => ?_) (fun c59 => ?_)
      · have h59 := n_le mn j c59
        obtain rfl : j = mn := by omega
        refine ev_iconst_1 94 d_wt_writesText_94 ?_
        refine ev_zret 95 d_wt_writesText_95 rfl ?_ ?_
        · rfl
        exact ⟨_, _, rfl, rfl, Or.inr ⟨hle, rfl, rfl⟩⟩
      · have h59 := n_nle mn j c59
        refine ev_aload_0 62 d_wt_writesText_62 ?_
        refine gw_get 63 16 1 d_wt_writesText_63 lk_wt_19 (W.1.2 16 (by decide) (by decide)) rfl (.ref (am (200 + 20 * J))) W.2.2.1.2.1 ?_
        refine gw_get 66 (200 + 20 * J) 0 d_wt_writesText_66 lk_wt_60 W.2.2.2.2.2.1.1 (gk_in J W.2.2.2.2.2.2).1 (.ref (am (201 + 20 * J))) W.2.2.2.2.2.1.2.2.2.1 ?_
        refine ev_iload_4 69 d_wt_writesText_69 ?_
        refine ev_iload_6 71 d_wt_writesText_71 ?_
        refine ev_iadd 73 d_wt_writesText_73 ?_
        refine ev_aload_0 74 d_wt_writesText_74 ?_
        refine gw_get 75 16 0 d_wt_writesText_75 lk_wt_15 (W.1.2 16 (by decide) (by decide)) rfl (.ref (am (200 + 20 * i))) W.2.2.1.1 ?_
        refine gw_get 78 (200 + 20 * i) 0 d_wt_writesText_78 lk_wt_60 W.2.2.2.2.1.1.1 (gk_in i W.2.2.2.2.1.2).1 (.ref (am (201 + 20 * i))) W.2.2.2.2.1.1.2.2.2.1 ?_
        refine ev_iload_5 81 d_wt_writesText_81 ?_
        refine ev_iload_6 83 d_wt_writesText_83 ?_
        refine ev_iadd 85 d_wt_writesText_85 ?_
        refine ev_topi (nI (fr + j)) (nI_add fr j) ?_
        refine gw_ild (j := fr + j) 86 (201 + 20 * i) d_wt_writesText_86 W.2.2.2.2.1.1.2.1 (gk_in i W.2.2.2.2.1.2).2.1 (by rw [W.2.2.2.2.1.1.2.2.2.2.2.1]; omega) (by rw [W.2.2.2.2.1.1.2.2.2.2.2.1]; decide) ((hb_sb (wrm S J (mo_ut hp 1) mn) (201 + 20 * J) to (lN (mo_ut hp 1 + mn * 65536)) 4).2.1 (201 + 20 * i) (fr + j)) (by rw [wcp_ne _ _ _ _ _ (by omega)]) ?_
        refine ev_sndi (nI (mo_ut hp 1 + j)) (nI_add _ j) ?_
        refine gw_ist (j := mo_ut hp 1 + j) 87 (201 + 20 * J) d_wt_writesText_87 W.1.1 W.2.2.2.2.2.1.2.1 (gk_in J W.2.2.2.2.2.2).2.1 (by rw [W.2.2.2.2.2.1.2.2.2.2.2.1]; omega) (by rw [W.2.2.2.2.2.1.2.2.2.2.2.1]; decide) ?_
        refine ev_iinc_6 88 d_wt_writesText_88 ?_ (hn := by exact Nat.le_of_ble_eq_true rfl)
        refine ev_goto 91 56 d_wt_writesText_91 ?_
        exact ev_eq (ih (j + 1) (by omega) (by omega)) (h1 := by rw [n_i1])
  refine ev_aload_0 0 d_wt_writesText_0 ?_
  refine gw_get 1 16 2 d_wt_writesText_1 lk_wt_22 (W.1.2 16 (by decide) (by decide)) rfl (.ref (am 10)) W.2.2.1.2.2.1 ?_
  refine gw_get 4 10 2 d_wt_writesText_4 lk_wt_97 (W.1.2 10 (by decide) (by decide)) rfl (.ref (am 13)) W.2.2.2.1.2.2 ?_
  refine ev_iload_1 7 d_wt_writesText_7 ?_
  refine gw_ild (j := it) 8 13 d_wt_writesText_8 (W.1.2 13 (by decide) (by decide)) rfl (by rw [W.2.1.2.2]; exact hit) (by rw [W.2.1.2.2]; decide) _ hcnt ?_
  refine ev_istore_3 9 d_wt_writesText_9 ?_ (hn := by exact Nat.le_of_ble_eq_true rfl)
  refine ev_aload_0 10 d_wt_writesText_10 ?_
  refine ev_iload_3 11 d_wt_writesText_11 ?_
  refine ev_iconst_1 12 d_wt_writesText_12 ?_
  refine gw_callV 13 16 [.int (nI mn), .int (1)] [] d_wt_writesText_13 hZ (kc_wt_38 (k9 := 1) (mc9 := 0) (ms9 := 0)) (hr_of hk1 (by decide) (by decide) (by decide)) (W.1.2 16 (by decide) (by decide)) rfl rfl (ht_wt_makeRoom mn 1 hZ hNw W hhp hp2 (Or.inl rfl) (by omega) (by decide)) (fun r9 w9 hw => ?_)
  obtain ⟨y, S1, e1, e2, hb⟩ := hw
  subst e1
  subst e2
  refine ev_eq (st' := [.int y]) ?_
  refine ev_istore_4 16 d_wt_writesText_16 ?_ (hn := by exact Nat.le_of_ble_eq_true rfl)
  refine ev_iload_4 18 d_wt_writesText_18 ?_
  refine ev_iconst_m1 20 d_wt_writesText_20 ?_
  refine ev_icmpne 21 26 d_wt_writesText_21 (fun c21 => ?_) (fun c21 => ?_)
  · obtain ⟨hle, ey, e9⟩ : mo_ut hp 1 + mn ≤ 256 ∧ y = nI (mo_ut hp 1) ∧ S1 = wrm S J (mo_ut hp 1) (mn) := by
      rcases hb with ⟨-, ey, -⟩ | h9
      · exact absurd ey c21
      · exact h9
    subst e9
    subst ey
    have hu := mo_ut_le hp 1 (by omega)
    have W1 : ww K am N (wrm S J (mo_ut hp 1) (mn)) i J := W.wk (wrm_k (wkp.rf J S))
    refine ev_aload_0 26 d_wt_writesText_26 ?_
    refine gw_get 27 16 1 d_wt_writesText_27 lk_wt_19 (W.1.2 16 (by decide) (by decide)) rfl (.ref (am (200 + 20 * J))) W1.2.2.1.2.1 ?_
    refine ev_iload_2 30 d_wt_writesText_30 ?_
    refine ev_iconst_4 31 d_wt_writesText_31 ?_
    refine ev_iload_4 32 d_wt_writesText_32 ?_
    refine ev_iload_3 34 d_wt_writesText_34 ?_
    refine ev_callS 35 [.int (nI (mo_ut hp 1)), .int (nI mn)] [.int 4, .int (nI to), .ref (am (200 + 20 * J))] d_wt_writesText_35 hZ (kc_wt_100 (k9 := 0) (mc9 := 0) (ms9 := 0)) (hr_of hk0 (by decide) (by decide) (by decide)) (ht_wt_placeAndCount (nI (mo_ut hp 1)) (nI mn)) (fun r9 w9 hw => ?_)
    obtain ⟨e1, e2⟩ := hw
    subst e1
    subst e2
    rw [by_pc (by omega) (by omega)]
    refine ev_eq (st' := [.long (lN (mo_ut hp 1 + mn * 65536)), .int 4, .int (nI to), .ref (am (200 + 20 * J))]) ?_
    refine gw_callV 38 (200 + 20 * J) [.int (nI to), .int (nI 4), .long (lN (mo_ut hp 1 + mn * 65536))] [] d_wt_writesText_38 hZ (kc_wt_93 (k9 := 1) (mc9 := 0) (ms9 := 0)) (hr_of hk1 (by decide) (by decide) (by decide)) W.2.2.2.2.2.1.1 (gk_in J W.2.2.2.2.2.2).1 rfl (ht_in_storeBytes J to 4 (lN (mo_ut hp 1 + mn * 65536)) hZ hNw W.1.1 W.2.2.2.2.2.2 W1.2.2.2.2.2.1 (by omega) (by omega) (by decide)) (fun r9 w9 hw => ?_)
    obtain ⟨e1, e2⟩ := hw
    subst e1
    subst e2
    rw [show min 4 (256 - to) = 4 by omega]
    refine ev_eq (st' := []) ?_
    refine ev_aload_0 41 d_wt_writesText_41 ?_
    refine gw_get 42 16 2 d_wt_writesText_42 lk_wt_22 (W.1.2 16 (by decide) (by decide)) rfl (.ref (am 10)) ((congrFun (congrFun (hsb_1 _ _ _ _ _).1 _) _).trans W1.2.2.1.2.2.1) ?_
    refine gw_get 45 10 1 d_wt_writesText_45 lk_wt_87 (W.1.2 10 (by decide) (by decide)) rfl (.ref (am 12)) ((congrFun (congrFun (hsb_1 _ _ _ _ _).1 _) _).trans W1.2.2.2.1.2.1) ?_
    refine ev_iload_1 48 d_wt_writesText_48 ?_
    refine gw_lld (j := it) 49 12 d_wt_writesText_49 (W.1.2 12 (by decide) (by decide)) rfl (by rw [W.2.1.2.1]; exact hit) (by rw [W.2.1.2.1]; decide) (lN fr) (by rw [(wsb_k (J := J) (a := to) (n := 4) (w := lN (mo_ut hp 1 + mn * 65536)) (wrm_k (pl := mo_ut hp 1) (k := mn) (wkp.rf J S))).2.2]; exact hnum) ?_
    refine ev_l2i 50 d_wt_writesText_50 ?_
    refine ev_topi (nI fr) (lN_32 (by omega)) ?_
    refine ev_istore_5 51 d_wt_writesText_51 ?_ (hn := by exact Nat.le_of_ble_eq_true rfl)
    refine ev_iconst_0 53 d_wt_writesText_53 ?_
    refine ev_istore_6 54 d_wt_writesText_54 ?_ (hn := by exact Nat.le_of_ble_eq_true rfl)
    exact ev_eq (L56 hle (mn + 1) 0 (by omega) (by omega))
  · obtain ⟨hgt, e9⟩ : 256 < mo_ut hp 1 + mn ∧ S1 = sp_S S 11 (nI (mo_ut hp 1)) := by
      rcases hb with ⟨h1, -, h3⟩ | ⟨h1, ey, -⟩
      · exact ⟨h1, h3⟩
      · exact absurd (ey.symm.trans c21) (n_m1n _ (by have := mo_ut_le hp 1 (by omega); omega))
    subst e9
    refine ev_iconst_0 24 d_wt_writesText_24 ?_
    refine ev_zret 25 d_wt_writesText_25 rfl ?_ ?_
    · rfl
    exact ⟨_, _, rfl, rfl, Or.inl ⟨hgt, rfl, rfl⟩⟩
