theorem lN_32 {m : Nat} (h : m < 65536) : (lN m).toInt32 = nI m := by
  apply Int32.toBitVec_inj.mp
  apply BitVec.eq_of_toNat_eq
  rw [Int64.toBitVec_toInt32, BitVec.signExtend_eq_setWidth_of_le _ (by decide), BitVec.toNat_setWidth, by_l, by_i, BitVec.toNat_ofNat, BitVec.toNat_ofNat]
  omega
theorem n_m1n (b : Nat) (h : b < 2147483648) : ¬ nI b = -1 := fun z => absurd (show (-1 : Int32) < 0 by decide) (by rw [← z]; exact nI_pos h)
theorem tx_b_in {f : Nat → Int32} {i P : Nat} (h : P < 256) : tx_b f i P = f (256 * i + P) := by rw [tx_b, if_neg (by omega)]

set_option maxHeartbeats 4000000 in
set_option maxRecDepth 100000 in
theorem ht_re_groupLength {l : Launch} {D : va_G} {tl : List (ClassId × FieldType)} {Z : (Nat → Prop) → State → Heap → Prop} {K : List Nat} {am : Nat → Nat} {ks : Nat → ClassId} {N : Nat → Nat} {S : gS} {k : Nat} (P : Nat) (E : Nat) {B : Nat → Nat → Int32} {i : Nat} (hZ : ev_Zok Z) (hNw : hc_ZN Z) (W : rd_w K am N S i) (hM : me_R S B i) (h8 : mo_b8 B) {fr mn kk : Nat} (hPk : P = fr + kk) (hE : E = fr + mn) (hfr : fr ≤ 65535) (hmn : mn ≤ 65535) (hkm : kk < mn) (hk0 : 0 < k) (hk1 : 1 < k) : MT (hc_π l D ks tl Z) (m_re_groupLength k 0 0) 0 0 [.ref (am 15), .int (nI P), .int (nI E)] (gw K am ks N S) (fun r w => ∃ y S1, w = gw K am ks N S1 ∧ r = some (.int y) ∧ ((∃ c q, tx_g (B 13) i fr mn kk = some (c, q) ∧ y = -1 ∧ S1 = sp_S S c q) ∨ (tx_g (B 13) i fr mn kk = none ∧ y = tx_mr (B 13 (256 * i + P)) + 1 ∧ S1 = S))) := by
  refine mt_of pl_re rfl (Nat.le_of_ble_eq_true rfl) (ev_eq (lv' := [some (.ref (am 15)), some (.int (nI P)), some (.int (nI E)), none, none, none, none]) ?_)
  have LX : ∀ (j : Nat) (o6 : Option Value), j ≤ 10 → P < 256 → tx_g (B 13) i fr mn kk = some (4, nI P) → EV (hc_π l D ks tl Z) (m_re_groupLength k 0 0) (ev_E (hc_π l D ks tl Z) 0 0 (fun r w => ∃ y S1, w = gw K am ks N S1 ∧ r = some (.int y) ∧ ((∃ c q, tx_g (B 13) i fr mn kk = some (c, q) ∧ y = -1 ∧ S1 = sp_S S c q) ∨ (tx_g (B 13) i fr mn kk = none ∧ y = tx_mr (B 13 (256 * i + P)) + 1 ∧ S1 = S)))) 0 0 22 [some (.ref (am 15)), some (.int (nI P)), some (.int (nI E)), some (.int (B 13 (256 * i + P))), some (.int (-1)), some (.int (nI j)), o6] [] (gw K am ks N S) := by
    intro j o6 hj hP hg
    refine ev_iload_5 22 d_re_groupLength_22 ?_
    refine ev_iload_4 24 d_re_groupLength_24 ?_
    refine ev_icmpge 26 90 d_re_groupLength_26 (fun c26 => ?_) (fun c26 => ?_)
    · refine ev_iload_4 90 d_re_groupLength_90 ?_
      refine ev_iconst_m1 92 d_re_groupLength_92 ?_
      refine ev_icmpne 93 106 d_re_groupLength_93 (fun c93 => ?_) (fun c93 => ?_)
      · exact absurd rfl c93
      · refine ev_aload_0 96 d_re_groupLength_96 ?_
        refine gw_get 97 15 2 d_re_groupLength_97 lk_re_23 (W.1.2 15 (by decide) (by decide)) rfl (.ref (am 14)) W.2.2.1.2.2 ?_
        refine ev_iconst_4 100 d_re_groupLength_100 ?_
        refine ev_iload_1 101 d_re_groupLength_101 ?_
        refine gw_callV 102 14 [.int 4, .int (nI P)] [] d_re_groupLength_102 hZ (kc_re_33 (k9 := 0) (mc9 := 0) (ms9 := 0)) (hr_of hk0 (by decide) (by decide) (by decide)) (W.1.2 14 (by decide) (by decide)) rfl rfl (ht_tr_springs 4 (nI P) W.1.1 (W.1.2 14 (by decide) (by decide))) (fun r9 w9 hw => ?_)
        obtain ⟨e1, e2⟩ := hw
        subst e1
        subst e2
        refine ev_eq (st' := [.int 0]) ?_
        refine ev_pop_i 105 d_re_groupLength_105 ?_
        refine ev_iload_4 106 d_re_groupLength_106 ?_
        refine ev_iret 108 d_re_groupLength_108 rfl ?_
        exact ⟨_, _, rfl, rfl, Or.inl ⟨4, nI P, hg, rfl, rfl⟩⟩
    · exact absurd (Int32.le_trans (show (-1 : Int32) ≤ 0 by decide) (nI_pos' (by omega))) c26
  have L22 : ∀ (m : Nat), m ≤ 3 → P < 256 → tx_mr (B 13 (256 * i + P)) = nI m → ∀ (r j : Nat) (o6 : Option Value), j + r = m → tx_c (B 13) i fr mn kk j = none → kk + j < mn → EV (hc_π l D ks tl Z) (m_re_groupLength k 0 0) (ev_E (hc_π l D ks tl Z) 0 0 (fun r w => ∃ y S1, w = gw K am ks N S1 ∧ r = some (.int y) ∧ ((∃ c q, tx_g (B 13) i fr mn kk = some (c, q) ∧ y = -1 ∧ S1 = sp_S S c q) ∨ (tx_g (B 13) i fr mn kk = none ∧ y = tx_mr (B 13 (256 * i + P)) + 1 ∧ S1 = S)))) 0 0 22 [some (.ref (am 15)), some (.int (nI P)), some (.int (nI E)), some (.int (B 13 (256 * i + P))), some (.int (nI (m + 1))), some (.int (nI (j + 1))), o6] [] (gw K am ks N S) := by
    intro m hm hP hmr
    have hgm : tx_g (B 13) i fr mn kk = tx_c (B 13) i fr mn kk m := by
      rw [tx_g, ← hPk, tx_b_in hP, hmr, nI_clamp (by omega)]
    intro r
    induction r with
    | zero =>
      intro j o6 hj hc hkj
      obtain rfl : j = m := by omega
      refine ev_iload_5 22 d_re_groupLength_22 ?_
      refine ev_iload_4 24 d_re_groupLength_24 ?_
      refine ev_icmpge 26 90 d_re_groupLength_26 (fun c26 => ?_) (fun c26 => ?_)
      · refine ev_iload_4 90 d_re_groupLength_90 ?_
        refine ev_iconst_m1 92 d_re_groupLength_92 ?_
        refine ev_icmpne 93 106 d_re_groupLength_93 (fun c93 => ?_) (fun c93 => ?_)
        · refine ev_iload_4 106 d_re_groupLength_106 ?_
          refine ev_iret 108 d_re_groupLength_108 rfl ?_
          exact ⟨_, _, rfl, rfl, Or.inr ⟨hgm.trans hc, by rw [hmr, nI_1], rfl⟩⟩
        · exact absurd c93 (n_m1n (j + 1) (by omega))
      · exact absurd (Int32.le_refl _) c26
    | succ r ih =>
      intro j o6 hj hc hkj
      have hbx : tx_b (B 13) i P = B 13 (256 * i + P) := tx_b_in hP
      refine ev_iload_5 22 d_re_groupLength_22 ?_
      refine ev_iload_4 24 d_re_groupLength_24 ?_
      refine ev_icmpge 26 90 d_re_groupLength_26 (fun c26 => ?_) (fun c26 => ?_)
      · exact absurd (n_le (m + 1) (j + 1) c26) (by omega)
      · have h26 := n_nle (m + 1) (j + 1) c26
        refine ev_iload_1 29 d_re_groupLength_29 ?_
        refine ev_iload_5 30 d_re_groupLength_30 ?_
        refine ev_iadd 32 d_re_groupLength_32 ?_
        refine ev_iload_2 33 d_re_groupLength_33 ?_
        refine ev_sndi (nI (P + (j + 1))) (nI_add P (j + 1)) ?_
        refine ev_icmpge 34 48 d_re_groupLength_34 (fun c34 => ?_) (fun c34 => ?_)
        · have h34 := n_le E (P + (j + 1)) c34
          have hend : kk + (j + 1) = mn := by omega
          refine ev_iconst_0 48 d_re_groupLength_48 ?_
          refine ev_istore_6 49 d_re_groupLength_49 ?_ (hn := by exact Nat.le_of_ble_eq_true rfl)
          refine ev_iload_6 51 d_re_groupLength_51 ?_
          refine ev_iconst_m1 53 d_re_groupLength_53 ?_
          refine ev_icmpne 54 59 d_re_groupLength_54 (fun c54 => ?_) (fun c54 => ?_)
          · refine ev_iload_6 59 d_re_groupLength_59 ?_
            refine ev_iload_3 61 d_re_groupLength_61 ?_
            refine ev_iload_5 62 d_re_groupLength_62 ?_
            refine ev_callS 64 [.int (B 13 (256 * i + P)), .int (nI (j + 1))] [.int 0] d_re_groupLength_64 hZ (kc_re_124 (k9 := 0) (mc9 := 0) (ms9 := 0)) (hr_of hk0 (by decide) (by decide) (by decide)) (ht_re_lowestBehind (B 13 (256 * i + P)) (nI (j + 1))) (fun r9 w9 hw => ?_)
            obtain ⟨e1, y9, e2, hy9⟩ := hw
            subst e1
            subst e2
            refine ev_eq (st' := [.int y9, .int 0]) ?_
            rw [hb_lo _ j (by omega)] at hy9
            subst hy9
            refine ev_icmplt 67 81 d_re_groupLength_67 (fun c67 => ?_) (fun c67 => ?_)
            · refine ev_iconst_m1 81 d_re_groupLength_81 ?_
              refine ev_istore_4 82 d_re_groupLength_82 ?_ (hn := by exact Nat.le_of_ble_eq_true rfl)
              refine ev_iinc_5 84 d_re_groupLength_84 ?_ (hn := by exact Nat.le_of_ble_eq_true rfl)
              refine ev_goto 87 22 d_re_groupLength_87 ?_
              have hg : tx_c (B 13) i fr mn kk (j + 1) = some (4, nI P) := by
                rw [tx_c, hc]
                dsimp only
                rw [if_pos hend, ← hPk]
              exact ev_eq (LX (j + 1 + 1) _ (by omega) hP (hgm.trans (tx_st hg m (by omega)))) (h1 := by rw [n_i1])
            · exact absurd (tx_lo0 _ j) c67
          · exact absurd c54 (by decide)
        · have h34 := n_nle E (P + (j + 1)) c34
          have hend : ¬ kk + (j + 1) = mn := by omega
          refine ev_aload_0 37 d_re_groupLength_37 ?_
          refine ev_iload_1 38 d_re_groupLength_38 ?_
          refine ev_iload_5 39 d_re_groupLength_39 ?_
          refine ev_iadd 41 d_re_groupLength_41 ?_
          refine ev_topi (nI (P + (j + 1))) (nI_add P (j + 1)) ?_
          refine gw_callV 42 15 [.int (nI (P + (j + 1)))] [] d_re_groupLength_42 hZ (kc_re_89 (k9 := 1) (mc9 := 0) (ms9 := 0)) (hr_of hk1 (by decide) (by decide) (by decide)) (W.1.2 15 (by decide) (by decide)) rfl rfl (ht_re_byteAt (nI (P + (j + 1))) hZ hNw W hM (by decide)) (fun r9 w9 hw => ?_)
          obtain ⟨y, S1, e1, e2, hb⟩ := hw
          subst e1
          subst e2
          refine ev_eq (st' := [.int y]) ?_
          refine ev_goto 45 49 d_re_groupLength_45 ?_
          refine ev_istore_6 49 d_re_groupLength_49 ?_ (hn := by exact Nat.le_of_ble_eq_true rfl)
          refine ev_iload_6 51 d_re_groupLength_51 ?_
          refine ev_iconst_m1 53 d_re_groupLength_53 ?_
          refine ev_icmpne 54 59 d_re_groupLength_54 (fun c54 => ?_) (fun c54 => ?_)
          · obtain ⟨hx, ey, e9⟩ : (P + (j + 1)) < 256 ∧ y = B 13 (256 * i + (P + (j + 1))) ∧ S1 = S := by
              rcases hb with ⟨a, ha, ea, ey, e9⟩ | ⟨-, ey, -⟩
              · have := n_eq ((P + (j + 1))) a ea
                subst this
                exact ⟨ha, ey, e9⟩
              · exact absurd ey c54
            subst e9
            subst ey
            refine ev_iload_6 59 d_re_groupLength_59 ?_
            refine ev_iload_3 61 d_re_groupLength_61 ?_
            refine ev_iload_5 62 d_re_groupLength_62 ?_
            refine ev_callS 64 [.int (B 13 (256 * i + P)), .int (nI (j + 1))] [.int (B 13 (256 * i + (P + (j + 1))))] d_re_groupLength_64 hZ (kc_re_124 (k9 := 0) (mc9 := 0) (ms9 := 0)) (hr_of hk0 (by decide) (by decide) (by decide)) (ht_re_lowestBehind (B 13 (256 * i + P)) (nI (j + 1))) (fun r9 w9 hw => ?_)
            obtain ⟨e1, y9, e2, hy9⟩ := hw
            subst e1
            subst e2
            refine ev_eq (st' := [.int y9, .int (B 13 (256 * i + (P + (j + 1))))]) ?_
            rw [hb_lo _ j (by omega)] at hy9
            subst hy9
            refine ev_icmplt 67 81 d_re_groupLength_67 (fun c67 => ?_) (fun c67 => ?_)
            · refine ev_iconst_m1 81 d_re_groupLength_81 ?_
              refine ev_istore_4 82 d_re_groupLength_82 ?_ (hn := by exact Nat.le_of_ble_eq_true rfl)
              refine ev_iinc_5 84 d_re_groupLength_84 ?_ (hn := by exact Nat.le_of_ble_eq_true rfl)
              refine ev_goto 87 22 d_re_groupLength_87 ?_
              have hg : tx_c (B 13) i fr mn kk (j + 1) = some (4, nI P) := by
                rw [tx_c, hc]
                dsimp only
                rw [if_neg hend, ← hPk, if_neg (by omega), if_pos (Or.inl (by rw [hbx]; exact c67))]
              exact ev_eq (LX (j + 1 + 1) _ (by omega) hP (hgm.trans (tx_st hg m (by omega)))) (h1 := by rw [n_i1])
            · refine ev_iload_6 70 d_re_groupLength_70 ?_
              refine ev_iload_3 72 d_re_groupLength_72 ?_
              refine ev_iload_5 73 d_re_groupLength_73 ?_
              refine ev_callS 75 [.int (B 13 (256 * i + P)), .int (nI (j + 1))] [.int (B 13 (256 * i + (P + (j + 1))))] d_re_groupLength_75 hZ (kc_re_127 (k9 := 0) (mc9 := 0) (ms9 := 0)) (hr_of hk0 (by decide) (by decide) (by decide)) (ht_re_highestBehind (B 13 (256 * i + P)) (nI (j + 1))) (fun r9 w9 hw => ?_)
              obtain ⟨e1, y9, e2, hy9⟩ := hw
              subst e1
              subst e2
              refine ev_eq (st' := [.int y9, .int (B 13 (256 * i + (P + (j + 1))))]) ?_
              rw [hb_hi _ j (by omega)] at hy9
              subst hy9
              refine ev_icmple 78 84 d_re_groupLength_78 (fun c78 => ?_) (fun c78 => ?_)
              · refine ev_iinc_5 84 d_re_groupLength_84 ?_ (hn := by exact Nat.le_of_ble_eq_true rfl)
                refine ev_goto 87 22 d_re_groupLength_87 ?_
                have hg : tx_c (B 13) i fr mn kk (j + 1) = none := by
                  rw [tx_c, hc]
                  dsimp only
                  rw [if_neg hend, ← hPk, if_neg (by omega), if_neg (fun z => z.elim (fun q => c67 (by rw [hbx] at q; exact q)) (fun q => absurd (Int32.not_le.mpr q) (by rw [hbx]; exact fun w => w c78)))]
                exact ev_eq (ih (j + 1) _ (by omega) hg (by omega)) (h1 := by rw [n_i1])
              · refine ev_iconst_m1 81 d_re_groupLength_81 ?_
                refine ev_istore_4 82 d_re_groupLength_82 ?_ (hn := by exact Nat.le_of_ble_eq_true rfl)
                refine ev_iinc_5 84 d_re_groupLength_84 ?_ (hn := by exact Nat.le_of_ble_eq_true rfl)
                refine ev_goto 87 22 d_re_groupLength_87 ?_
                have hg : tx_c (B 13) i fr mn kk (j + 1) = some (4, nI P) := by
                  rw [tx_c, hc]
                  dsimp only
                  rw [if_neg hend, ← hPk, if_neg (by omega), if_pos (Or.inr (by rw [hbx]; exact Int32.not_le.mp c78))]
                exact ev_eq (LX (j + 1 + 1) _ (by omega) hP (hgm.trans (tx_st hg m (by omega)))) (h1 := by rw [n_i1])
          · obtain ⟨hx, e9⟩ : 256 ≤ (P + (j + 1)) ∧ S1 = sp_S S 1 (nI ((P + (j + 1)))) := by
              rcases hb with ⟨a, ha, ea, ey, -⟩ | ⟨hq, -, e9⟩
              · obtain ⟨b, hb8, eb, eb2⟩ := bb_at h8 W.2.2.2.2.2 ha
                rw [ey, eb] at c54
                exact absurd c54 (n_m1n b (by omega))
              · exact ⟨(n_out (by omega)).mp hq, e9⟩
            subst e9
            refine ev_iconst_m1 57 d_re_groupLength_57 ?_
            refine ev_iret 58 d_re_groupLength_58 rfl ?_
            have hg : tx_c (B 13) i fr mn kk (j + 1) = some (1, nI (P + (j + 1))) := by
              rw [tx_c, hc]
              dsimp only
              rw [if_neg hend, ← hPk, if_pos (by omega)]
            exact ⟨_, _, rfl, rfl, Or.inl ⟨1, nI (P + (j + 1)), hgm.trans (tx_st hg m (by omega)), rfl, rfl⟩⟩
  refine ev_aload_0 0 d_re_groupLength_0 ?_
  refine ev_iload_1 1 d_re_groupLength_1 ?_
  refine gw_callV 2 15 [.int (nI P)] [] d_re_groupLength_2 hZ (kc_re_89 (k9 := 1) (mc9 := 0) (ms9 := 0)) (hr_of hk1 (by decide) (by decide) (by decide)) (W.1.2 15 (by decide) (by decide)) rfl rfl (ht_re_byteAt (nI P) hZ hNw W hM (by decide)) (fun r9 w9 hw => ?_)
  obtain ⟨y, S1, e1, e2, hb⟩ := hw
  subst e1
  subst e2
  refine ev_eq (st' := [.int y]) ?_
  refine ev_istore_3 5 d_re_groupLength_5 ?_ (hn := by exact Nat.le_of_ble_eq_true rfl)
  refine ev_iload_3 6 d_re_groupLength_6 ?_
  refine ev_iconst_m1 7 d_re_groupLength_7 ?_
  refine ev_icmpne 8 13 d_re_groupLength_8 (fun c8 => ?_) (fun c8 => ?_)
  · obtain ⟨hx, ey, e9⟩ : P < 256 ∧ y = B 13 (256 * i + P) ∧ S1 = S := by
      rcases hb with ⟨a, ha, ea, ey, e9⟩ | ⟨-, ey, -⟩
      · have := n_eq (P) a ea
        subst this
        exact ⟨ha, ey, e9⟩
      · exact absurd ey c8
    subst e9
    subst ey
    refine ev_iload_3 13 d_re_groupLength_13 ?_
    refine ev_callS 14 [.int (B 13 (256 * i + P))] [] d_re_groupLength_14 hZ (kc_re_121 (k9 := 0) (mc9 := 0) (ms9 := 0)) (hr_of hk0 (by decide) (by decide) (by decide)) (ht_re_lengthBehind (B 13 (256 * i + P))) (fun r9 w9 hw => ?_)
    obtain ⟨e1, y9, e2, hy9⟩ := hw
    subst e1
    subst e2
    refine ev_eq (st' := [.int y9]) ?_
    subst hy9
    refine ev_istore_4 17 d_re_groupLength_17 ?_ (hn := by exact Nat.le_of_ble_eq_true rfl)
    refine ev_iconst_1 19 d_re_groupLength_19 ?_
    refine ev_istore_5 20 d_re_groupLength_20 ?_ (hn := by exact Nat.le_of_ble_eq_true rfl)
    rcases tx_mr_v (B 13 (256 * i + P)) with hmr | ⟨m, hm, hmr⟩
    · refine ev_eq (LX 1 none (by omega) hx ?_) (h1 := by rw [hb_mr, hmr]; rfl)
      rw [tx_g, ← hPk, tx_b_in hx, hmr]
      show tx_c (B 13) i fr mn kk 0 = _
      rw [tx_c, ← hPk, if_neg (by omega), tx_b_in hx, hmr, if_pos (by decide)]
    · refine ev_eq (L22 m hm hx hmr m 0 none (by omega) ?_ hkm) (h1 := by rw [hb_mr, hmr, if_pos (nI_pos' (by omega)), nI_1]; rfl)
      rw [tx_c, ← hPk, if_neg (by omega), tx_b_in hx, hmr, if_neg (fun z => z (nI_pos' (by omega)))]
  · obtain ⟨hx, e9⟩ : 256 ≤ P ∧ S1 = sp_S S 1 (nI (P)) := by
      rcases hb with ⟨a, ha, ea, ey, -⟩ | ⟨hq, -, e9⟩
      · obtain ⟨b, hb8, eb, eb2⟩ := bb_at h8 W.2.2.2.2.2 ha
        rw [ey, eb] at c8
        exact absurd c8 (n_m1n b (by omega))
      · exact ⟨(n_out (by omega)).mp hq, e9⟩
    subst e9
    refine ev_iconst_m1 11 d_re_groupLength_11 ?_
    refine ev_iret 12 d_re_groupLength_12 rfl ?_
    have hg : tx_c (B 13) i fr mn kk 0 = some (1, nI P) := by rw [tx_c, ← hPk, if_pos hx]
    exact ⟨_, _, rfl, rfl, Or.inl ⟨1, nI P, tx_st hg _ (Nat.zero_le _), rfl, rfl⟩⟩

theorem tx_g_in {f : Nat → Int32} {ii fr mn k : Nat} (h : tx_g f ii fr mn k = none) (hk : k < mn) : fr + k < 256 ∧ ∃ m, m ≤ 3 ∧ tx_mr (f (256 * ii + (fr + k))) = nI m ∧ k + m < mn := by
  have h0 : fr + k < 256 := by
    by_cases e : 256 ≤ fr + k
    · have : tx_c f ii fr mn k 0 = some (1, nI (fr + k)) := by rw [tx_c, if_pos e]
      rw [tx_g, tx_st this _ (Nat.zero_le _)] at h
      cases h
    · omega
  rw [tx_g, tx_b_in h0] at h
  rcases tx_mr_v (f (256 * ii + (fr + k))) with hmr | ⟨m, hm, hmr⟩
  · have : tx_c f ii fr mn k 0 = some (4, nI (fr + k)) := by rw [tx_c, if_neg (by omega), tx_b_in h0, hmr, if_pos (by decide)]
    rw [tx_st this _ (Nat.zero_le _)] at h
    cases h
  · rw [hmr, nI_clamp (by omega)] at h
    exact ⟨h0, m, hm, hmr, (tx_c_in m hk h).1⟩

set_option maxHeartbeats 4000000 in
set_option maxRecDepth 100000 in
theorem ht_re_readsText {l : Launch} {D : va_G} {tl : List (ClassId × FieldType)} {Z : (Nat → Prop) → State → Heap → Prop} {K : List Nat} {am : Nat → Nat} {ks : Nat → ClassId} {N : Nat → Nat} {S : gS} {k : Nat} (it : Nat) {B : Nat → Nat → Int32} {i : Nat} (hZ : ev_Zok Z) (hNw : hc_ZN Z) (W : rd_w K am N S i) (hM : me_R S B i) (h8 : mo_b8 B) {fr mn : Nat} (hit : it < 200) (hnum : S.2.2.2 12 it = lN fr) (hcnt : S.2.1 13 it = nI mn) (hfr : fr ≤ 65535) (hmn : mn ≤ 65535) (hk2 : 2 < k) : MT (hc_π l D ks tl Z) (m_re_readsText k 0 0) 0 0 [.ref (am 15), .int (nI it)] (gw K am ks N S) (fun r w => ∃ y S1, w = gw K am ks N S1 ∧ r = some (.int y) ∧ ((∃ c q, tx_r (B 13) i fr mn (mn + 1) 0 = some (c, q) ∧ y = 0 ∧ S1 = sp_S S c q) ∨ (tx_r (B 13) i fr mn (mn + 1) 0 = none ∧ y = 1 ∧ S1 = S))) := by
  refine mt_of pl_re rfl (Nat.le_of_ble_eq_true rfl) (ev_eq (lv' := [some (.ref (am 15)), some (.int (nI it)), none, none, none]) ?_)
  have L23 : ∀ (n kk : Nat) (o4 : Option Value), mn < kk + n → kk ≤ mn → tx_r (B 13) i fr mn n kk = tx_r (B 13) i fr mn (mn + 1) 0 → EV (hc_π l D ks tl Z) (m_re_readsText k 0 0) (ev_E (hc_π l D ks tl Z) 0 0 (fun r w => ∃ y S1, w = gw K am ks N S1 ∧ r = some (.int y) ∧ ((∃ c q, tx_r (B 13) i fr mn (mn + 1) 0 = some (c, q) ∧ y = 0 ∧ S1 = sp_S S c q) ∨ (tx_r (B 13) i fr mn (mn + 1) 0 = none ∧ y = 1 ∧ S1 = S)))) 0 0 23 [some (.ref (am 15)), some (.int (nI it)), some (.int (nI (fr + kk))), some (.int (nI (fr + mn))), o4] [] (gw K am ks N S) := by
    intro n
    induction n with
    | zero => intro kk o4 h1 h2; omega
    | succ n ih =>
      intro kk o4 h1 h2 hr
      refine ev_iload_2 23 d_re_readsText_23 ?_
      refine ev_iload_3 24 d_re_readsText_24 ?_
      refine ev_icmpge 25 51 d_re_readsText_25 (fun c25 => ?_) (fun c25 => ?_)
      · have h25 := n_le (fr + mn) (fr + kk) c25
        obtain rfl : kk = mn := by omega
        refine ev_iconst_1 51 d_re_readsText_51 ?_
        refine ev_zret 52 d_re_readsText_52 rfl ?_ ?_
        · rfl
        exact ⟨_, _, rfl, rfl, Or.inr ⟨by rw [← hr, tx_r, if_pos (Nat.le_refl _)], rfl, rfl⟩⟩
      · have h25 := n_nle (fr + mn) (fr + kk) c25
        have hkm : kk < mn := by omega
        refine ev_aload_0 28 d_re_readsText_28 ?_
        refine ev_iload_2 29 d_re_readsText_29 ?_
        refine ev_iload_3 30 d_re_readsText_30 ?_
        refine gw_callV 31 15 [.int (nI (fr + kk)), .int (nI (fr + mn))] [] d_re_readsText_31 hZ (kc_re_117 (k9 := 2) (mc9 := 0) (ms9 := 0)) (hr_of hk2 (by decide) (by decide) (by decide)) (W.1.2 15 (by decide) (by decide)) rfl rfl (ht_re_groupLength (fr + kk) (fr + mn) hZ hNw W hM h8 rfl rfl hfr hmn hkm (by decide) (by decide)) (fun r9 w9 hw => ?_)
        obtain ⟨y, S1, e1, e2, hb⟩ := hw
        subst e1
        subst e2
        refine ev_eq (st' := [.int y]) ?_
        refine ev_istore_4 34 d_re_readsText_34 ?_ (hn := by exact Nat.le_of_ble_eq_true rfl)
        refine ev_iload_4 36 d_re_readsText_36 ?_
        refine ev_ifgt 38 43 d_re_readsText_38 (fun c38 => ?_) (fun c38 => ?_)
        · obtain ⟨hg, ey, e9⟩ : tx_g (B 13) i fr mn kk = none ∧ y = tx_mr (B 13 (256 * i + (fr + kk))) + 1 ∧ S1 = S := by
            rcases hb with ⟨c, q, -, ey, -⟩ | h9
            · exact absurd c38 (by rw [ey]; decide)
            · exact h9
          subst e9
          subst ey
          obtain ⟨hin, m, hm, hmr, hkm2⟩ := tx_g_in hg hkm
          refine ev_iload_2 43 d_re_readsText_43 ?_
          refine ev_iload_4 44 d_re_readsText_44 ?_
          refine ev_iadd 46 d_re_readsText_46 ?_
          refine ev_istore_2 47 d_re_readsText_47 ?_ (hn := by exact Nat.le_of_ble_eq_true rfl)
          refine ev_goto 48 23 d_re_readsText_48 ?_
          refine ev_eq (ih (kk + m + 1) _ (by omega) (by omega) ?_) (h1 := by rw [hmr, nI_1, nI_add, show fr + kk + (m + 1) = fr + (kk + m + 1) by omega])
          rw [← hr, tx_r, if_neg (by omega), hg]
          dsimp only
          rw [tx_b_in hin, hmr, nI_clamp (by omega)]
        · obtain ⟨c, q, hg, e9⟩ : ∃ c q, tx_g (B 13) i fr mn kk = some (c, q) ∧ S1 = sp_S S c q := by
            rcases hb with ⟨c, q, hg, -, e9⟩ | ⟨hg, ey, -⟩
            · exact ⟨c, q, hg, e9⟩
            · obtain ⟨hin, m, hm, hmr, hkm2⟩ := tx_g_in hg hkm
              rw [ey, hmr, nI_1] at c38
              exact absurd (nI_lt (a := 0) (b := m + 1) (by omega) (by omega)) c38
          subst e9
          refine ev_iconst_0 41 d_re_readsText_41 ?_
          refine ev_zret 42 d_re_readsText_42 rfl ?_ ?_
          · rfl
          exact ⟨_, _, rfl, rfl, Or.inl ⟨c, q, by rw [← hr, tx_r, if_neg (by omega), hg], rfl, rfl⟩⟩
  refine ev_aload_0 0 d_re_readsText_0 ?_
  refine gw_get 1 15 1 d_re_readsText_1 lk_re_19 (W.1.2 15 (by decide) (by decide)) rfl (.ref (am 10)) W.2.2.1.2.1 ?_
  refine gw_get 4 10 1 d_re_readsText_4 lk_re_108 (W.1.2 10 (by decide) (by decide)) rfl (.ref (am 12)) W.2.2.2.1.2.1 ?_
  refine ev_iload_1 7 d_re_readsText_7 ?_
  refine gw_lld (j := it) 8 12 d_re_readsText_8 (W.1.2 12 (by decide) (by decide)) rfl (by rw [W.2.1.2.1]; exact hit) (by rw [W.2.1.2.1]; decide) _ hnum ?_
  refine ev_l2i 9 d_re_readsText_9 ?_
  refine ev_topi (nI fr) (lN_32 (by omega)) ?_
  refine ev_istore_2 10 d_re_readsText_10 ?_ (hn := by exact Nat.le_of_ble_eq_true rfl)
  refine ev_iload_2 11 d_re_readsText_11 ?_
  refine ev_aload_0 12 d_re_readsText_12 ?_
  refine gw_get 13 15 1 d_re_readsText_13 lk_re_19 (W.1.2 15 (by decide) (by decide)) rfl (.ref (am 10)) W.2.2.1.2.1 ?_
  refine gw_get 16 10 2 d_re_readsText_16 lk_re_114 (W.1.2 10 (by decide) (by decide)) rfl (.ref (am 13)) W.2.2.2.1.2.2 ?_
  refine ev_iload_1 19 d_re_readsText_19 ?_
  refine gw_ild (j := it) 20 13 d_re_readsText_20 (W.1.2 13 (by decide) (by decide)) rfl (by rw [W.2.1.2.2]; exact hit) (by rw [W.2.1.2.2]; decide) _ hcnt ?_
  refine ev_iadd 21 d_re_readsText_21 ?_
  refine ev_istore_3 22 d_re_readsText_22 ?_ (hn := by exact Nat.le_of_ble_eq_true rfl)
  exact ev_eq (L23 (mn + 1) 0 none (by omega) (by omega) rfl) (h1 := by rw [nI_add]; rfl)
