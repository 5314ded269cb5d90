theorem k_pr {a b : Nat} (h : 1 ≤ b) : 203 + 20 * a + (b - 1) = 202 + 20 * a + b := by omega
theorem hof0 {B : Nat → Nat → Int32} {fr : Nat → Bool} {x : Nat} : hof B fr x = 0 ↔ B 16 x = 0 := by
  unfold hof
  by_cases c : B 16 x = 0
  · rw [if_pos c]; exact ⟨fun _ => c, fun _ => rfl⟩
  · rw [if_neg c]
    refine ⟨fun z => ?_, fun z => absurd z c⟩
    split at z
    · cases z
    split at z
    · cases z
    split at z <;> cases z

set_option maxHeartbeats 4000000 in
set_option maxRecDepth 100000 in
theorem ht_wt_writesHandle {l : Launch} {D : va_G} {tl : List (ClassId × FieldType)} {Z : (Nat → Prop) → State → Heap → Prop} {K : List Nat} {am : Nat → Nat} {ks : Nat → ClassId} {N : Nat → Nat} {S : gS} {k : Nat} (it : Nat) (u : Nat) (to : Nat) {i J : Nat} (hZ : ev_Zok Z) (hNw : hc_ZN Z) (W : ww K am N S i J) {Bs B : Nat → Nat → Int32} {NT ni b : Nat} {ct : Nat → Nat} {pt : Nat → Nat → Nat} {fr : Nat → Bool} {ln : Nat → Int32} {pp : Int32} (hd : Nat → Nat) (hZ9 : ho_Z Z hd) (hDi : ho_D hd) (hT : TyR K am N S Bs NT ct pt) (hu9 : u < NT) (hA : HA am hd S B fr ln ni) (hin : i < ni) (hJn : J < ni) (hb1 : 1 ≤ b) (hb2 : b ≤ 16) (hnum : S.2.2.2 12 it = lN b) (hu : ¬ B 16 (17 * i + b) = 0) (hpp : S.2.1 11 it = pp) (hit : it < 200) (hto : to + 1 ≤ 256) (hk0 : 0 < k) (hk1 : 1 < k) : MT (hc_π l D ks tl Z) (m_wt_writesHandle k 0 0) 0 0 [.ref (am 16), .int (nI it), .ref (am (100 + 3 * u)), .int (nI to)] (gw K am ks N S) (fun r w => ∃ y S1, w = gw K am ks N S1 ∧ r = some (.int y) ∧ (((mo_fh (B 16) (17 * J) 16) = 0 ∧ y = 0 ∧ S1 = sp_S S 12 pp) ∨ (¬ (mo_fh (B 16) (17 * J) 16) = 0 ∧ y = 1 ∧ S1 = hb_sb (wus S (202 + 20 * J + (mo_fh (B 16) (17 * J) 16)) (B 17 (17 * i + b)) (B 23 (B 17 (17 * i + b)).toNatClampNeg) (hd (if Bs 2 u = 11 then 4 else 2)) (if Bs 2 u = 11 then .null else .ref (am (202 + 20 * i + b)))) (201 + 20 * J) to (lN (mo_fh (B 16) (17 * J) 16)) 1))) := by
  refine mt_of pl_wt rfl (Nat.le_of_ble_eq_true rfl) (ev_eq (lv' := [some (.ref (am 16)), some (.int (nI it)), some (.ref (am (100 + 3 * u))), some (.int (nI to)), none, none, none]) ?_)
  refine ev_aload_0 0 d_wt_writesHandle_0 ?_
  refine gw_get 1 16 1 d_wt_writesHandle_1 lk_wt_19 (W.1.2 16 (by decide) (by decide)) rfl (.ref (am (200 + 20 * J))) W.2.2.1.2.1 ?_
  refine gw_callV 4 (200 + 20 * J) [] [] d_wt_writesHandle_4 hZ (kc_wt_110 (k9 := 0) (mc9 := 0) (ms9 := 0)) (hr_of hk0 (by decide) (by decide) (by decide)) W.2.2.2.2.2.1.1 (gk_in J W.2.2.2.2.2.2).1 rfl (ht_in_lowestFreeHandle J hd hZ9 hDi W.2.2.2.2.2.2 W.2.2.2.2.2.1 (fun h => hof B fr (17 * J + h + 1)) (fun h hh => ⟨hof_lt _ _ _, (hA J h hJn hh).1⟩)) (fun r9 w9 hw => ?_)
  obtain ⟨e1, y, e2, hy⟩ := hw
  subst e1
  subst e2
  rw [fr_eq (B := B) (J := J) (fun j _ => hof0) 16 (Nat.le_refl _)] at hy
  subst hy
  refine ev_eq (st' := [.int (hh_ni (mo_fh (B 16) (17 * J) 16))]) ?_
  refine ev_istore_4 7 d_wt_writesHandle_7 ?_ (hn := by exact Nat.le_of_ble_eq_true rfl)
  refine ev_iload_4 9 d_wt_writesHandle_9 ?_
  refine ev_iconst_m1 11 d_wt_writesHandle_11 ?_
  refine ev_icmpne 12 34 d_wt_writesHandle_12 (fun c12 => ?_) (fun c12 => ?_)
  · have hf0 : ¬ (mo_fh (B 16) (17 * J) 16) = 0 := fun z => c12 (by rw [z]; rfl)
    obtain ⟨f1, f2, f3⟩ := (mo_fh_ok (B 16) (17 * J) 16 (Nat.le_refl _)).resolve_left hf0
    have eni : hh_ni (mo_fh (B 16) (17 * J) 16) = nI (mo_fh (B 16) (17 * J) 16) := if_neg hf0
    rw [eni]
    have kRK : (202 + 20 * J + (mo_fh (B 16) (17 * J) 16)) ∈ K := by rw [← k_pr f1]; exact (W.2.2.2.2.2.1.2.2.2.2.2.2.2 ((mo_fh (B 16) (17 * J) 16) - 1) (by omega)).1
    have kRg : gk (202 + 20 * J + (mo_fh (B 16) (17 * J) 16)) = 4 := by rw [← k_pr f1]; exact (gk_in J W.2.2.2.2.2.2).2.2.2 ((mo_fh (B 16) (17 * J) 16) - 1) (by omega)
    have kSK : (202 + 20 * i + b) ∈ K := by rw [← k_pr hb1]; exact (W.2.2.2.2.1.1.2.2.2.2.2.2.2 (b - 1) (by omega)).1
    have kSg : gk (202 + 20 * i + b) = 4 := by rw [← k_pr hb1]; exact (gk_in i W.2.2.2.2.1.2).2.2.2 (b - 1) (by omega)
    obtain ⟨-, -, a3⟩ := hA i (b - 1) hin (by omega)
    rw [k_pr hb1, show 17 * i + (b - 1) + 1 = 17 * i + b by omega] at a3
    obtain ⟨s0, s1, -⟩ := a3 hu
    refine ev_aload_0 34 d_wt_writesHandle_34 ?_
    refine gw_get 35 16 0 d_wt_writesHandle_35 lk_wt_15 (W.1.2 16 (by decide) (by decide)) rfl (.ref (am (200 + 20 * i))) W.2.2.1.1 ?_
    refine gw_get 38 (200 + 20 * i) 1 d_wt_writesHandle_38 lk_wt_117 W.2.2.2.2.1.1.1 (gk_in i W.2.2.2.2.1.2).1 (.ref (am (202 + 20 * i))) W.2.2.2.2.1.1.2.2.2.2.1 ?_
    refine ev_aload_0 41 d_wt_writesHandle_41 ?_
    refine gw_get 42 16 2 d_wt_writesHandle_42 lk_wt_22 (W.1.2 16 (by decide) (by decide)) rfl (.ref (am 10)) W.2.2.1.2.2.1 ?_
    refine gw_get 45 10 1 d_wt_writesHandle_45 lk_wt_87 (W.1.2 10 (by decide) (by decide)) rfl (.ref (am 12)) W.2.2.2.1.2.1 ?_
    refine ev_iload_1 48 d_wt_writesHandle_48 ?_
    refine gw_lld (j := it) 49 12 d_wt_writesHandle_49 (W.1.2 12 (by decide) (by decide)) rfl (by rw [W.2.1.2.1]; exact hit) (by rw [W.2.1.2.1]; decide) _ hnum ?_
    refine ev_l2i 50 d_wt_writesHandle_50 ?_
    refine ev_iconst_1 51 d_wt_writesHandle_51 ?_
    refine ev_isub 52 d_wt_writesHandle_52 ?_
    refine ev_topi (nI (b - 1)) (by rw [lN_32 (by omega), n_s1 (by omega)]) ?_
    refine gw_qld (j := b - 1) 53 (202 + 20 * i) d_wt_writesHandle_53 W.2.2.2.2.1.1.2.2.1 (gk_in i W.2.2.2.2.1.2).2.2.1 (by rw [W.2.2.2.2.1.1.2.2.2.2.2.2.1]; omega) (by rw [W.2.2.2.2.1.1.2.2.2.2.2.2.1]; decide) (some (am (202 + 20 * i + b))) (by rw [← k_pr hb1]; exact (W.2.2.2.2.1.1.2.2.2.2.2.2.2 (b - 1) (by omega)).2) ?_
    refine ev_astore_5 54 d_wt_writesHandle_54 ?_ (hn := by exact Nat.le_of_ble_eq_true rfl)
    refine ev_aload_0 56 d_wt_writesHandle_56 ?_
    refine gw_get 57 16 1 d_wt_writesHandle_57 lk_wt_19 (W.1.2 16 (by decide) (by decide)) rfl (.ref (am (200 + 20 * J))) W.2.2.1.2.1 ?_
    refine gw_get 60 (200 + 20 * J) 1 d_wt_writesHandle_60 lk_wt_117 W.2.2.2.2.2.1.1 (gk_in J W.2.2.2.2.2.2).1 (.ref (am (202 + 20 * J))) W.2.2.2.2.2.1.2.2.2.2.1 ?_
    refine ev_iload_4 63 d_wt_writesHandle_63 ?_
    refine ev_iconst_1 65 d_wt_writesHandle_65 ?_
    refine ev_isub 66 d_wt_writesHandle_66 ?_
    refine ev_topi (nI ((mo_fh (B 16) (17 * J) 16) - 1)) (n_s1 (by omega)) ?_
    refine gw_qld (j := (mo_fh (B 16) (17 * J) 16) - 1) 67 (202 + 20 * J) d_wt_writesHandle_67 W.2.2.2.2.2.1.2.2.1 (gk_in J W.2.2.2.2.2.2).2.2.1 (by rw [W.2.2.2.2.2.1.2.2.2.2.2.2.1]; omega) (by rw [W.2.2.2.2.2.1.2.2.2.2.2.2.1]; decide) (some (am (202 + 20 * J + (mo_fh (B 16) (17 * J) 16)))) (by rw [← k_pr f1]; exact (W.2.2.2.2.2.1.2.2.2.2.2.2.2 ((mo_fh (B 16) (17 * J) 16) - 1) (by omega)).2) ?_
    refine ev_astore_6 68 d_wt_writesHandle_68 ?_ (hn := by exact Nat.le_of_ble_eq_true rfl)
    refine ev_aload_2 70 d_wt_writesHandle_70 ?_
    refine gw_get 71 (100 + 3 * u) 0 d_wt_writesHandle_71 lk_wt_64 (hT.k0 hu9) (hT.g0 hu9) (.int (Bs 2 u)) (hT.f0 hu9) ?_
    refine ev_bipush (11) 74 d_wt_writesHandle_74 (by decide) ?_
    refine ev_icmpne 76 101 d_wt_writesHandle_76 (fun c76 => ?_) (fun c76 => ?_)
    · refine ev_aload_6 101 d_wt_writesHandle_101 ?_
      refine ev_aload_5 103 d_wt_writesHandle_103 ?_
      refine gw_get 105 (202 + 20 * i + b) 0 d_wt_writesHandle_105 lk_wt_121 kSK kSg (.int (B 17 (17 * i + b))) s0 ?_
      refine ev_aload_5 108 d_wt_writesHandle_108 ?_
      refine gw_get 110 (202 + 20 * i + b) 1 d_wt_writesHandle_110 lk_wt_126 kSK kSg (.int (B 23 (B 17 (17 * i + b)).toNatClampNeg)) s1 ?_
      refine ev_gets (v := .ref (hd 2)) 113 d_wt_writesHandle_113 (fun A s z => hZ9 A s z 2) ls_wt_137 ?_
      refine ev_aload_5 116 d_wt_writesHandle_116 ?_
      refine gw_callV 118 (202 + 20 * J + (mo_fh (B 16) (17 * J) 16)) [.int (B 17 (17 * i + b)), .int (B 23 (B 17 (17 * i + b)).toNatClampNeg), .ref (hd 2), .ref (am (202 + 20 * i + b))] [] d_wt_writesHandle_118 hZ (kc_wt_133 (k9 := 0) (mc9 := 0) (ms9 := 0)) (hr_of hk0 (by decide) (by decide) (by decide)) kRK kRg rfl (ht_ha_useR (202 + 20 * J + (mo_fh (B 16) (17 * J) 16)) (B 17 (17 * i + b)) (B 23 (B 17 (17 * i + b)).toNatClampNeg) (hd 2) (am (202 + 20 * i + b)) W.1.1 kRK kRg) (fun r9 w9 hw => ?_)
      obtain ⟨e1, e2⟩ := hw
      subst e1
      subst e2
      refine ev_eq (st' := []) (ws' := gw K am ks N (wus S (202 + 20 * J + (mo_fh (B 16) (17 * J) 16)) (B 17 (17 * i + b)) (B 23 (B 17 (17 * i + b)).toNatClampNeg) (hd 2) (.ref (am (202 + 20 * i + b))))) ?_
      have W1 : ww K am N (wus S (202 + 20 * J + (mo_fh (B 16) (17 * J) 16)) (B 17 (17 * i + b)) (B 23 (B 17 (17 * i + b)).toNatClampNeg) (hd 2) (.ref (am (202 + 20 * i + b)))) i J := W.wk (wus_k (wkp.rf J S) kRg)
      refine ev_aload_0 121 d_wt_writesHandle_121 ?_
      refine gw_get 122 16 1 d_wt_writesHandle_122 lk_wt_19 (W.1.2 16 (by decide) (by decide)) rfl (.ref (am (200 + 20 * J))) W1.2.2.1.2.1 ?_
      refine ev_iload_3 125 d_wt_writesHandle_125 ?_
      refine ev_iconst_1 126 d_wt_writesHandle_126 ?_
      refine ev_iload_4 127 d_wt_writesHandle_127 ?_
      refine ev_i2l 129 d_wt_writesHandle_129 ?_
      refine ev_eq (st' := [.long (lN (mo_fh (B 16) (17 * J) 16)), .int 1, .int (nI to), .ref (am (200 + 20 * J))]) ?_ (h2 := by rw [nI_l (by omega)])
      refine gw_callV 130 (200 + 20 * J) [.int (nI to), .int (nI 1), .long (lN (mo_fh (B 16) (17 * J) 16))] [] d_wt_writesHandle_130 hZ (kc_wt_93 (k9 := 1) (mc9 := 0) (ms9 := 0)) (hr_of hk1 (by decide) (by decide) (by decide)) W.2.2.2.2.2.1.1 (gk_in J W.2.2.2.2.2.2).1 rfl (ht_in_storeBytes J to 1 (lN (mo_fh (B 16) (17 * J) 16)) hZ hNw W.1.1 W.2.2.2.2.2.2 W1.2.2.2.2.2.1 (by omega) (by omega) (by decide)) (fun r9 w9 hw => ?_)
      obtain ⟨e1, e2⟩ := hw
      subst e1
      subst e2
      rw [show min 1 (256 - to) = 1 by omega]
      refine ev_eq (st' := []) ?_
      refine ev_iconst_1 133 d_wt_writesHandle_133 ?_
      refine ev_zret 134 d_wt_writesHandle_134 rfl ?_ ?_
      · rfl
      exact ⟨_, _, rfl, rfl, Or.inr ⟨hf0, rfl, by rw [if_neg c76, if_neg c76]⟩⟩
    · refine ev_aload_6 79 d_wt_writesHandle_79 ?_
      refine ev_aload_5 81 d_wt_writesHandle_81 ?_
      refine gw_get 83 (202 + 20 * i + b) 0 d_wt_writesHandle_83 lk_wt_121 kSK kSg (.int (B 17 (17 * i + b))) s0 ?_
      refine ev_aload_5 86 d_wt_writesHandle_86 ?_
      refine gw_get 88 (202 + 20 * i + b) 1 d_wt_writesHandle_88 lk_wt_126 kSK kSg (.int (B 23 (B 17 (17 * i + b)).toNatClampNeg)) s1 ?_
      refine ev_gets (v := .ref (hd 4)) 91 d_wt_writesHandle_91 (fun A s z => hZ9 A s z 4) ls_wt_127 ?_
      refine ev_null 94 d_wt_writesHandle_94 ?_
      refine gw_callV 95 (202 + 20 * J + (mo_fh (B 16) (17 * J) 16)) [.int (B 17 (17 * i + b)), .int (B 23 (B 17 (17 * i + b)).toNatClampNeg), .ref (hd 4), .null] [] d_wt_writesHandle_95 hZ (kc_wt_133 (k9 := 0) (mc9 := 0) (ms9 := 0)) (hr_of hk0 (by decide) (by decide) (by decide)) kRK kRg rfl (ht_ha_useN (202 + 20 * J + (mo_fh (B 16) (17 * J) 16)) (B 17 (17 * i + b)) (B 23 (B 17 (17 * i + b)).toNatClampNeg) (hd 4) W.1.1 kRK kRg) (fun r9 w9 hw => ?_)
      obtain ⟨e1, e2⟩ := hw
      subst e1
      subst e2
      refine ev_eq (st' := []) (ws' := gw K am ks N (wus S (202 + 20 * J + (mo_fh (B 16) (17 * J) 16)) (B 17 (17 * i + b)) (B 23 (B 17 (17 * i + b)).toNatClampNeg) (hd 4) (.null))) ?_
      have W1 : ww K am N (wus S (202 + 20 * J + (mo_fh (B 16) (17 * J) 16)) (B 17 (17 * i + b)) (B 23 (B 17 (17 * i + b)).toNatClampNeg) (hd 4) (.null)) i J := W.wk (wus_k (wkp.rf J S) kRg)
      refine ev_goto 98 121 d_wt_writesHandle_98 ?_
      refine ev_aload_0 121 d_wt_writesHandle_121 ?_
      refine gw_get 122 16 1 d_wt_writesHandle_122 lk_wt_19 (W.1.2 16 (by decide) (by decide)) rfl (.ref (am (200 + 20 * J))) W1.2.2.1.2.1 ?_
      refine ev_iload_3 125 d_wt_writesHandle_125 ?_
      refine ev_iconst_1 126 d_wt_writesHandle_126 ?_
      refine ev_iload_4 127 d_wt_writesHandle_127 ?_
      refine ev_i2l 129 d_wt_writesHandle_129 ?_
      refine ev_eq (st' := [.long (lN (mo_fh (B 16) (17 * J) 16)), .int 1, .int (nI to), .ref (am (200 + 20 * J))]) ?_ (h2 := by rw [nI_l (by omega)])
      refine gw_callV 130 (200 + 20 * J) [.int (nI to), .int (nI 1), .long (lN (mo_fh (B 16) (17 * J) 16))] [] d_wt_writesHandle_130 hZ (kc_wt_93 (k9 := 1) (mc9 := 0) (ms9 := 0)) (hr_of hk1 (by decide) (by decide) (by decide)) W.2.2.2.2.2.1.1 (gk_in J W.2.2.2.2.2.2).1 rfl (ht_in_storeBytes J to 1 (lN (mo_fh (B 16) (17 * J) 16)) hZ hNw W.1.1 W.2.2.2.2.2.2 W1.2.2.2.2.2.1 (by omega) (by omega) (by decide)) (fun r9 w9 hw => ?_)
      obtain ⟨e1, e2⟩ := hw
      subst e1
      subst e2
      rw [show min 1 (256 - to) = 1 by omega]
      refine ev_eq (st' := []) ?_
      refine ev_iconst_1 133 d_wt_writesHandle_133 ?_
      refine ev_zret 134 d_wt_writesHandle_134 rfl ?_ ?_
      · rfl
      exact ⟨_, _, rfl, rfl, Or.inr ⟨hf0, rfl, by rw [if_pos c76, if_pos c76]⟩⟩
  · have hf0 : (mo_fh (B 16) (17 * J) 16) = 0 := by
      by_cases z : (mo_fh (B 16) (17 * J) 16) = 0
      · exact z
      · obtain ⟨f1, f2, f3⟩ := (mo_fh_ok (B 16) (17 * J) 16 (Nat.le_refl _)).resolve_left z
        rw [hh_ni, if_neg z] at c12
        exact absurd c12 (n_m1n _ (by omega))
    refine ev_aload_0 15 d_wt_writesHandle_15 ?_
    refine gw_get 16 16 3 d_wt_writesHandle_16 lk_wt_26 (W.1.2 16 (by decide) (by decide)) rfl (.ref (am 14)) W.2.2.1.2.2.2 ?_
    refine ev_bipush (12) 19 d_wt_writesHandle_19 (by decide) ?_
    refine ev_aload_0 21 d_wt_writesHandle_21 ?_
    refine gw_get 22 16 2 d_wt_writesHandle_22 lk_wt_22 (W.1.2 16 (by decide) (by decide)) rfl (.ref (am 10)) W.2.2.1.2.2.1 ?_
    refine gw_get 25 10 0 d_wt_writesHandle_25 lk_wt_114 (W.1.2 10 (by decide) (by decide)) rfl (.ref (am 11)) W.2.2.2.1.1 ?_
    refine ev_iload_1 28 d_wt_writesHandle_28 ?_
    refine gw_ild (j := it) 29 11 d_wt_writesHandle_29 (W.1.2 11 (by decide) (by decide)) rfl (by rw [W.2.1.1]; exact hit) (by rw [W.2.1.1]; decide) _ hpp ?_
    refine gw_callV 30 14 [.int 12, .int pp] [] d_wt_writesHandle_30 hZ (kc_wt_54 (k9 := 0) (mc9 := 0) (ms9 := 0)) (hr_of hk0 (by decide) (by decide) (by decide)) (W.1.2 14 (by decide) (by decide)) rfl rfl (ht_tr_springs 12 pp W.1.1 (W.1.2 14 (by decide) (by decide))) (fun r9 w9 hw => ?_)
    obtain ⟨e1, e2⟩ := hw
    subst e1
    subst e2
    refine ev_eq (st' := [.int 0]) ?_
    refine ev_zret 33 d_wt_writesHandle_33 rfl ?_ ?_
    · rfl
    exact ⟨_, _, rfl, rfl, Or.inl ⟨hf0, rfl, rfl⟩⟩
