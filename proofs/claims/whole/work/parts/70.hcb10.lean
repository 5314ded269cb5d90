theorem n_pl0 {p : Int32} (h : ¬ (¬ p < 0 ∧ ¬ 256 ≤ p)) : p < 0 ∨ 255 < p := by
  by_cases c : p < 0
  · exact Or.inl c
  · by_cases d : 256 ≤ p
    · exact Or.inr (Int32.lt_of_lt_of_le (by decide) d)
    · exact absurd ⟨c, d⟩ h
theorem n_pl1 {p : Int32} (h : ¬ p < 0 ∧ ¬ 256 ≤ p) : ∃ a, a < 256 ∧ p = nI a := by
  obtain ⟨j, hj, rfl⟩ := nI_of h.1
  exact ⟨j, n_nle 256 j h.2, rfl⟩

set_option maxHeartbeats 4000000 in
set_option maxRecDepth 100000 in
theorem ht_re_byteAt {l : Launch} {D : va_G} {tl : List (ClassId × FieldType)} {Z : (Nat → Prop) → State → Heap → Prop} {K : List Nat} {am : Nat → Nat} {ks : Nat → ClassId} {N : Nat → Nat} {S : gS} {k : Nat} (p : Int32) {B : Nat → Nat → Int32} {i : Nat} (hZ : ev_Zok Z) (hNw : hc_ZN Z) (W : rd_w K am N S i) (hM : me_R S B i) (hk0 : 0 < k) : MT (hc_π l D ks tl Z) (m_re_byteAt k 0 0) 0 0 [.ref (am 15), .int p] (gw K am ks N S) (fun r w => ∃ y S1, w = gw K am ks N S1 ∧ r = some (.int y) ∧ ((∃ a, a < 256 ∧ p = nI a ∧ y = B 13 (256 * i + a) ∧ S1 = S) ∨ ((p < 0 ∨ 255 < p) ∧ y = -1 ∧ S1 = sp_S S 1 p))) := by
  refine mt_of pl_re rfl (Nat.le_of_ble_eq_true rfl) (ev_eq (lv' := [some (.ref (am 15)), some (.int p)]) ?_)
  refine ev_iload_1 0 d_re_byteAt_0 ?_
  refine ev_callSN 1 [.int p] [] d_re_byteAt_1 hZ (kn_re_81 (k9 := 0) (mc9 := 0) (ms9 := 0) hNw) (hr_of hk0 (by decide) (by decide) (by decide)) (ht_hc_isPlace p) (fun r9 w9 hw => ?_)
  obtain ⟨e1, y, e2, hy⟩ := hw
  subst e1
  subst e2
  refine ev_eq (st' := [.int y]) ?_
  refine ev_ifne 4 19 d_re_byteAt_4 (fun c4 => ?_) (fun c4 => ?_)
  · obtain ⟨a, ha, rfl⟩ := n_pl1 (mo_b1 hy c4)
    refine ev_aload_0 19 d_re_byteAt_19 ?_
    refine gw_get 20 15 0 d_re_byteAt_20 lk_re_15 (W.1.2 15 (by decide) (by decide)) rfl (.ref (am (200 + 20 * i))) W.2.2.1.1 ?_
    refine gw_get 23 (200 + 20 * i) 0 d_re_byteAt_23 lk_re_84 W.2.2.2.2.1.1 (gk_in i W.2.2.2.2.2).1 (.ref (am (201 + 20 * i))) W.2.2.2.2.1.2.2.2.1 ?_
    refine ev_iload_1 26 d_re_byteAt_26 ?_
    refine gw_ild (j := a) 27 (201 + 20 * i) d_re_byteAt_27 W.2.2.2.2.1.2.1 (gk_in i W.2.2.2.2.2).2.1 (by rw [W.2.2.2.2.1.2.2.2.2.2.1]; exact ha) (by rw [W.2.2.2.2.1.2.2.2.2.2.1]; decide) _ (hM a ha) ?_
    refine ev_iret 28 d_re_byteAt_28 rfl ?_
    exact ⟨_, _, rfl, rfl, Or.inl ⟨a, ha, rfl, rfl, rfl⟩⟩
  · have hq := n_pl0 (mo_b0 hy c4)
    refine ev_aload_0 7 d_re_byteAt_7 ?_
    refine gw_get 8 15 2 d_re_byteAt_8 lk_re_23 (W.1.2 15 (by decide) (by decide)) rfl (.ref (am 14)) W.2.2.1.2.2 ?_
    refine ev_iconst_1 11 d_re_byteAt_11 ?_
    refine ev_iload_1 12 d_re_byteAt_12 ?_
    refine gw_callV 13 14 [.int 1, .int p] [] d_re_byteAt_13 hZ (kc_re_33 (k9 := 0) (mc9 := 0) (ms9 := 0)) (hr_of hk0 (by decide) (by decide) (by decide)) (W.1.2 14 (by decide) (by decide)) rfl rfl (ht_tr_springs 1 p W.1.1 (W.1.2 14 (by decide) (by decide))) (fun r9 w9 hw => ?_)
    obtain ⟨e1, e2⟩ := hw
    subst e1
    subst e2
    refine ev_eq (st' := [.int 0]) ?_
    refine ev_pop_i 16 d_re_byteAt_16 ?_
    refine ev_iconst_m1 17 d_re_byteAt_17 ?_
    refine ev_iret 18 d_re_byteAt_18 rfl ?_
    exact ⟨_, _, rfl, rfl, Or.inr ⟨hq, rfl, rfl⟩⟩

set_option maxHeartbeats 4000000 in
set_option maxRecDepth 100000 in
theorem ht_re_readsBytes {l : Launch} {D : va_G} {tl : List (ClassId × FieldType)} {Z : (Nat → Prop) → State → Heap → Prop} {K : List Nat} {am : Nat → Nat} {ks : Nat → ClassId} {N : Nat → Nat} {S : gS} {k : Nat} (p : Int32) (n : Nat) {B : Nat → Nat → Int32} {i : Nat} (hZ : ev_Zok Z) (hNw : hc_ZN Z) (W : rd_w K am N S i) (hM : me_R S B i) (h8 : mo_b8 B) (hn : n ≤ 8) (hk1 : 1 < k) : MT (hc_π l D ks tl Z) (m_re_readsBytes k 0 0) 0 0 [.ref (am 15), .int p, .int (nI n)] (gw K am ks N S) (fun r w => ∃ y S1, w = gw K am ks N S1 ∧ r = some (.int y) ∧ ((∃ q v, mo_rg p n = some q ∧ y = 0 ∧ S1 = sp_S (gsG S 15 3 v) 1 q) ∨ (mo_rg p n = none ∧ y = 1 ∧ S1 = gsG S 15 3 (.long (lN (by_w B i p n)))))) := by
  refine mt_of pl_re rfl (Nat.le_of_ble_eq_true rfl) (ev_eq (lv' := [some (.ref (am 15)), some (.int p), some (.int (nI n)), none, none]) ?_)
  have L7 : ∀ (m j : Nat) (o4 : Option Value), n - j < m → j ≤ n → mo_rg p j = none → EV (hc_π l D ks tl Z) (m_re_readsBytes k 0 0) (ev_E (hc_π l D ks tl Z) 0 0 (fun r w => ∃ y S1, w = gw K am ks N S1 ∧ r = some (.int y) ∧ ((∃ q v, mo_rg p n = some q ∧ y = 0 ∧ S1 = sp_S (gsG S 15 3 v) 1 q) ∨ (mo_rg p n = none ∧ y = 1 ∧ S1 = gsG S 15 3 (.long (lN (by_w B i p n))))))) 0 0 7 [some (.ref (am 15)), some (.int p), some (.int (nI n)), some (.int (nI j)), o4] [] (gw K am ks N (gsG S 15 3 (.long (lN (by_w B i p j))))) := by
    intro m
    induction m with
    | zero => intro j o4 h; omega
    | succ m ih =>
      intro j o4 hm hj hr
      have W1 := W.rk ((rkp.rf S).by (v := .long (lN (by_w B i p j))))
      have hM1 := hM.rk ((rkp.rf S).by (v := .long (lN (by_w B i p j))))
      refine ev_iload_3 7 d_re_readsBytes_7 ?_
      refine ev_iload_2 8 d_re_readsBytes_8 ?_
      refine ev_icmpge 9 52 d_re_readsBytes_9 (fun c9 => ?_) (fun c9 => ?_)
      · have h9 := n_le n j c9
        obtain rfl : j = n := by omega
        refine ev_iconst_1 52 d_re_readsBytes_52 ?_
        refine ev_zret 53 d_re_readsBytes_53 rfl ?_ ?_
        · rfl
        exact ⟨_, _, rfl, rfl, Or.inr ⟨hr, rfl, rfl⟩⟩
      · have h9 := n_nle n j c9
        refine ev_aload_0 12 d_re_readsBytes_12 ?_
        refine ev_iload_1 13 d_re_readsBytes_13 ?_
        refine ev_iload_3 14 d_re_readsBytes_14 ?_
        refine ev_iadd 15 d_re_readsBytes_15 ?_
        refine gw_callV 16 15 [.int (p + nI j)] [] d_re_readsBytes_16 hZ (kc_re_89 (k9 := 1) (mc9 := 0) (ms9 := 0)) (hr_of hk1 (by decide) (by decide) (by decide)) (W.1.2 15 (by decide) (by decide)) rfl rfl (ht_re_byteAt (p + nI j) hZ hNw W1 hM1 (by decide)) (fun r9 w9 hw => ?_)
        obtain ⟨y, S1, e1, e2, hb⟩ := hw
        subst e1
        subst e2
        refine ev_eq (st' := [.int y]) ?_
        refine ev_istore_4 19 d_re_readsBytes_19 ?_ (hn := by exact Nat.le_of_ble_eq_true rfl)
        refine ev_iload_4 21 d_re_readsBytes_21 ?_
        refine ev_iconst_m1 23 d_re_readsBytes_23 ?_
        refine ev_icmpne 24 29 d_re_readsBytes_24 (fun c24 => ?_) (fun c24 => ?_)
        · obtain ⟨a, ha, ea, ey, e9⟩ : ∃ a, a < 256 ∧ p + nI j = nI a ∧ y = B 13 (256 * i + a) ∧ S1 = (gsG S 15 3 (.long (lN (by_w B i p j)))) := by
            rcases hb with h9 | ⟨-, ey, -⟩
            · exact h9
            · exact absurd ey c24
          subst e9
          subst ey
          obtain ⟨b, hb8, eb, eb2⟩ := bb_at h8 W.2.2.2.2.2 ha
          have hr1 : mo_rg p (j + 1) = none := by
            rw [mo_rg, hr]
            dsimp only
            rw [if_neg]
            rw [ea]
            exact fun z => absurd ((n_out (by omega)).mp z) (by omega)
          rw [eb]
          refine ev_aload_0 29 d_re_readsBytes_29 ?_
          refine ev_dup_a 30 d_re_readsBytes_30 ?_
          refine gw_get 31 15 3 d_re_readsBytes_31 lk_re_9 (W.1.2 15 (by decide) (by decide)) rfl (.long (lN (by_w B i p j))) (gsG_eq _ _ _ _) ?_
          refine ev_iload_4 34 d_re_readsBytes_34 ?_
          refine ev_i2l 36 d_re_readsBytes_36 ?_
          refine ev_bipush (8) 37 d_re_readsBytes_37 (by decide) ?_
          refine ev_iload_3 39 d_re_readsBytes_39 ?_
          refine ev_imul 40 d_re_readsBytes_40 ?_
          refine ev_lshl 41 d_re_readsBytes_41 ?_
          refine ev_lor 42 d_re_readsBytes_42 ?_
          refine ev_eq (st' := [.long (lN (by_w B i p (j + 1))), .ref (am 15)]) ?_ (h2 := by rw [by_or (by omega) (by_lt h8 W.2.2.2.2.2 j hr) hb8, by_w, ea, eb2])
          refine gw_put 43 15 3 d_re_readsBytes_43 lp_re_9 W.1.1 (W.1.2 15 (by decide) (by decide)) rfl rfl rfl ?_
          refine ev_eq (ws' := gw K am ks N (gsG S 15 3 (.long (lN (by_w B i p (j + 1)))))) ?_ (h3 := by rw [gsG_2])
          refine ev_iinc_3 46 d_re_readsBytes_46 ?_ (hn := by exact Nat.le_of_ble_eq_true rfl)
          refine ev_goto 49 7 d_re_readsBytes_49 ?_
          exact ev_eq (ih (j + 1) _ (by omega) (by omega) hr1) (h1 := by rw [n_i1])
        · obtain ⟨hq, e9⟩ : (p + nI j < 0 ∨ 255 < p + nI j) ∧ S1 = sp_S (gsG S 15 3 (.long (lN (by_w B i p j)))) 1 (p + nI j) := by
            rcases hb with ⟨a, ha, ea, ey, -⟩ | ⟨hq, -, e9⟩
            · obtain ⟨b, hb8, eb, eb2⟩ := bb_at h8 W.2.2.2.2.2 ha
              rw [ey, eb] at c24
              exact absurd (show (-1 : Int32) < 0 by decide) (by rw [← c24]; exact nI_pos (by omega))
            · exact ⟨hq, e9⟩
          subst e9
          have hr1 : mo_rg p (j + 1) = some (p + nI j) := by
            rw [mo_rg, hr]
            dsimp only
            rw [if_pos hq]
          refine ev_iconst_0 27 d_re_readsBytes_27 ?_
          refine ev_zret 28 d_re_readsBytes_28 rfl ?_ ?_
          · rfl
          exact ⟨_, _, rfl, rfl, Or.inl ⟨_, _, rg_st hr1 n (by omega), rfl, rfl⟩⟩
  refine ev_aload_0 0 d_re_readsBytes_0 ?_
  refine ev_lconst_0 1 d_re_readsBytes_1 ?_
  refine gw_put 2 15 3 d_re_readsBytes_2 lp_re_9 W.1.1 (W.1.2 15 (by decide) (by decide)) rfl rfl rfl ?_
  refine ev_iconst_0 5 d_re_readsBytes_5 ?_
  refine ev_istore_3 6 d_re_readsBytes_6 ?_ (hn := by exact Nat.le_of_ble_eq_true rfl)
  exact ev_eq (L7 (n + 1) 0 none (by omega) (by omega) rfl)

set_option maxHeartbeats 4000000 in
set_option maxRecDepth 100000 in
theorem ht_re_readsNumber {l : Launch} {D : va_G} {tl : List (ClassId × FieldType)} {Z : (Nat → Prop) → State → Heap → Prop} {K : List Nat} {am : Nat → Nat} {ks : Nat → ClassId} {N : Nat → Nat} {S : gS} {k : Nat} (it : Nat) (t : Nat) (p : Int32) {B : Nat → Nat → Int32} {i : Nat} (hZ : ev_Zok Z) (hNw : hc_ZN Z) (W : rd_w K am N S i) (hM : me_R S B i) (h8 : mo_b8 B) {NT : Nat} {ct : Nat → Nat} {pt : Nat → Nat → Nat} (hT : TyR K am N S B NT ct pt) (ht : t < NT) {sz : Nat} (hs : B 4 t = nI sz) (hs8 : sz ≤ 8) (hs1 : B 2 t = 0 ∨ B 2 t = 7 → sz = 1) (hs5 : B 2 t = 5 → sz = 4) (hit : it < 200) (hk0 : 0 < k) (hk2 : 2 < k) : MT (hc_π l D ks tl Z) (m_re_readsNumber k 0 0) 0 0 [.ref (am 15), .int (nI it), .ref (am (100 + 3 * t)), .int p] (gw K am ks N S) (fun r w => ∃ y S1, w = gw K am ks N S1 ∧ r = some (.int y) ∧ ((∃ c q v, mo_rp B i t p = some (c, q) ∧ y = 0 ∧ S1 = sp_S (gsG S 15 3 v) c q) ∨ (mo_rp B i t p = none ∧ y = 1 ∧ S1 = gsL (gsG S 15 3 (.long (lN (by_w B i p sz)))) 12 it (lN (by_w B i p sz))))) := by
  refine mt_of pl_re rfl (Nat.le_of_ble_eq_true rfl) (ev_eq (lv' := [some (.ref (am 15)), some (.int (nI it)), some (.ref (am (100 + 3 * t))), some (.int p)]) ?_)
  refine ev_aload_0 0 d_re_readsNumber_0 ?_
  refine ev_iload_3 1 d_re_readsNumber_1 ?_
  refine ev_aload_2 2 d_re_readsNumber_2 ?_
  refine gw_get 3 (100 + 3 * t) 8 d_re_readsNumber_3 lk_re_93 (hT.k0 ht) (hT.g0 ht) (.int (nI sz)) ((hT.f8 ht).trans (by rw [hs])) ?_
  refine gw_callV 6 15 [.int p, .int (nI sz)] [] d_re_readsNumber_6 hZ (kc_re_96 (k9 := 2) (mc9 := 0) (ms9 := 0)) (hr_of hk2 (by decide) (by decide) (by decide)) (W.1.2 15 (by decide) (by decide)) rfl rfl (ht_re_readsBytes p sz hZ hNw W hM h8 (by omega) (by decide)) (fun r9 w9 hw => ?_)
  obtain ⟨y, S1, e1, e2, hb⟩ := hw
  subst e1
  subst e2
  refine ev_eq (st' := [.int y]) ?_
  refine ev_ifne 9 14 d_re_readsNumber_9 (fun c9 => ?_) (fun c9 => ?_)
  · obtain ⟨hr, e9⟩ : mo_rg p sz = none ∧ S1 = gsG S 15 3 (.long (lN (by_w B i p sz))) := by
      rcases hb with ⟨q, v, h1, h2, h3⟩ | ⟨h1, h2, h3⟩
      · exact absurd h2 c9
      · exact ⟨h1, h3⟩
    subst e9
    have k1 : rkp S (gsG S 15 3 (.long (lN (by_w B i p sz)))) := (rkp.rf S).by
    have W1 := W.rk k1
    have hb0 : B 2 t = 0 ∨ B 2 t = 7 → ∃ b, b < 256 ∧ B 13 (256 * nI i + p).toNatClampNeg = nI b ∧ lN (by_w B i p sz) = lN b := fun z => by
      obtain rfl : sz = 1 := hs1 z
      obtain ⟨-, g⟩ := rg_in hr
      rw [n_a0] at g
      obtain ⟨g1, g2⟩ := bb_p h8 W.2.2.2.2.2 g
      exact ⟨_, g1, g2, by rw [by_w, by_w, n_a0]; simp⟩
    have hb5 : B 2 t = 5 → mo_nb (B 13) i p 4 = nI (by_w B i p sz) ∧ by_w B i p sz < 4294967296 := fun z => by
      obtain rfl : sz = 4 := hs5 z
      exact ⟨by_nb h8 W.2.2.2.2.2 4 (by omega) hr, by_lt h8 W.2.2.2.2.2 4 hr⟩
    refine ev_aload_2 14 d_re_readsNumber_14 ?_
    refine gw_get 15 (100 + 3 * t) 0 d_re_readsNumber_15 lk_re_48 (hT.k0 ht) (hT.g0 ht) (.int (B 2 t)) ((hT.rk k1).f0 ht) ?_
    refine ev_ifne 18 30 d_re_readsNumber_18 (fun c18 => ?_) (fun c18 => ?_)
    · refine ev_aload_2 30 d_re_readsNumber_30 ?_
      refine gw_get 31 (100 + 3 * t) 0 d_re_readsNumber_31 lk_re_48 (hT.k0 ht) (hT.g0 ht) (.int (B 2 t)) ((hT.rk k1).f0 ht) ?_
      refine ev_bipush (7) 34 d_re_readsNumber_34 (by decide) ?_
      refine ev_icmpne 36 62 d_re_readsNumber_36 (fun c36 => ?_) (fun c36 => ?_)
      · refine ev_aload_2 62 d_re_readsNumber_62 ?_
        refine gw_get 63 (100 + 3 * t) 0 d_re_readsNumber_63 lk_re_48 (hT.k0 ht) (hT.g0 ht) (.int (B 2 t)) ((hT.rk k1).f0 ht) ?_
        refine ev_iconst_5 66 d_re_readsNumber_66 ?_
        refine ev_icmpne 67 113 d_re_readsNumber_67 (fun c67 => ?_) (fun c67 => ?_)
        · refine ev_aload_0 113 d_re_readsNumber_113 ?_
          refine gw_get 114 15 1 d_re_readsNumber_114 lk_re_19 (W.1.2 15 (by decide) (by decide)) rfl (.ref (am 10)) W1.2.2.1.2.1 ?_
          refine gw_get 117 10 1 d_re_readsNumber_117 lk_re_108 (W.1.2 10 (by decide) (by decide)) rfl (.ref (am 12)) W1.2.2.2.1.2.1 ?_
          refine ev_iload_1 120 d_re_readsNumber_120 ?_
          refine ev_aload_0 121 d_re_readsNumber_121 ?_
          refine gw_get 122 15 3 d_re_readsNumber_122 lk_re_9 (W.1.2 15 (by decide) (by decide)) rfl (.long (lN (by_w B i p sz))) (gsG_eq _ _ _ _) ?_
          refine gw_lst (j := it) 125 12 d_re_readsNumber_125 W.1.1 (W.1.2 12 (by decide) (by decide)) rfl (by rw [W.2.1.2.1]; exact hit) (by rw [W.2.1.2.1]; decide) ?_
          refine ev_iconst_1 126 d_re_readsNumber_126 ?_
          refine ev_zret 127 d_re_readsNumber_127 rfl ?_ ?_
          · rfl
          exact ⟨_, _, rfl, rfl, Or.inr ⟨by rw [mo_rp0 hs (by omega) hr, if_neg (fun z => z.elim (fun z => c18 z.1) (fun z => c36 z.1)), if_neg (fun z => c67 z.1)], rfl, rfl⟩⟩
        · refine ev_aload_0 70 d_re_readsNumber_70 ?_
          refine gw_get 71 15 3 d_re_readsNumber_71 lk_re_9 (W.1.2 15 (by decide) (by decide)) rfl (.long (lN (by_w B i p sz))) (gsG_eq _ _ _ _) ?_
          refine ev_ldc2 1114111 74 d_re_readsNumber_74 kl_re_102 ?_
          refine ev_lcmp 77 d_re_readsNumber_77 ?_
          refine ev_ifgt 78 103 d_re_readsNumber_78 (fun c78 => ?_) (fun c78 => ?_)
          · refine ev_aload_0 103 d_re_readsNumber_103 ?_
            refine gw_get 104 15 2 d_re_readsNumber_104 lk_re_23 (W.1.2 15 (by decide) (by decide)) rfl (.ref (am 14)) W1.2.2.1.2.2 ?_
            refine ev_iconst_3 107 d_re_readsNumber_107 ?_
            refine ev_iload_3 108 d_re_readsNumber_108 ?_
            refine gw_callV 109 14 [.int 3, .int p] [] d_re_readsNumber_109 hZ (kc_re_33 (k9 := 0) (mc9 := 0) (ms9 := 0)) (hr_of hk0 (by decide) (by decide) (by decide)) (W.1.2 14 (by decide) (by decide)) rfl rfl (ht_tr_springs 3 p W1.1.1 (W.1.2 14 (by decide) (by decide))) (fun r9 w9 hw => ?_)
            obtain ⟨e1, e2⟩ := hw
            subst e1
            subst e2
            refine ev_eq (st' := [.int 0]) ?_
            refine ev_zret 112 d_re_readsNumber_112 rfl ?_ ?_
            · rfl
            obtain ⟨M1, M2⟩ := hb5 c67
            exact ⟨_, _, rfl, rfl, Or.inl ⟨3, p, _, by rw [mo_rp0 hs (by omega) hr, if_neg (fun z => z.elim (fun z => c18 z.1) (fun z => c36 z.1)), if_pos ⟨c67, by rw [M1]; exact (lt_5 M2).mpr (Or.inl ((l_c 1114111 (by decide) (by omega)).mp ((lg_cmp_gt _ _).mp c78)))⟩], rfl, rfl⟩⟩
          · refine ev_aload_0 81 d_re_readsNumber_81 ?_
            refine gw_get 82 15 3 d_re_readsNumber_82 lk_re_9 (W.1.2 15 (by decide) (by decide)) rfl (.long (lN (by_w B i p sz))) (gsG_eq _ _ _ _) ?_
            refine ev_ldc2 55295 85 d_re_readsNumber_85 kl_re_104 ?_
            refine ev_lcmp 88 d_re_readsNumber_88 ?_
            refine ev_ifle 89 113 d_re_readsNumber_89 (fun c89 => ?_) (fun c89 => ?_)
            · refine ev_aload_0 113 d_re_readsNumber_113 ?_
              refine gw_get 114 15 1 d_re_readsNumber_114 lk_re_19 (W.1.2 15 (by decide) (by decide)) rfl (.ref (am 10)) W1.2.2.1.2.1 ?_
              refine gw_get 117 10 1 d_re_readsNumber_117 lk_re_108 (W.1.2 10 (by decide) (by decide)) rfl (.ref (am 12)) W1.2.2.2.1.2.1 ?_
              refine ev_iload_1 120 d_re_readsNumber_120 ?_
              refine ev_aload_0 121 d_re_readsNumber_121 ?_
              refine gw_get 122 15 3 d_re_readsNumber_122 lk_re_9 (W.1.2 15 (by decide) (by decide)) rfl (.long (lN (by_w B i p sz))) (gsG_eq _ _ _ _) ?_
              refine gw_lst (j := it) 125 12 d_re_readsNumber_125 W.1.1 (W.1.2 12 (by decide) (by decide)) rfl (by rw [W.2.1.2.1]; exact hit) (by rw [W.2.1.2.1]; decide) ?_
              refine ev_iconst_1 126 d_re_readsNumber_126 ?_
              refine ev_zret 127 d_re_readsNumber_127 rfl ?_ ?_
              · rfl
              obtain ⟨M1, M2⟩ := hb5 c67
              exact ⟨_, _, rfl, rfl, Or.inr ⟨by rw [mo_rp0 hs (by omega) hr, if_neg (fun z => z.elim (fun z => c18 z.1) (fun z => c36 z.1)), if_neg (fun z => (by have z2 := z.2; rw [M1] at z2; exact ((lt_5 M2).mp z2).elim (fun z => c78 ((lg_cmp_gt _ _).mpr ((l_c 1114111 (by decide) (by omega)).mpr z))) (fun z => absurd ((l_c 55295 (by decide) (by omega)).mpr z.1) (Int64.not_lt.mpr ((lg_cmp_le _ _).mp c89)))))], rfl, rfl⟩⟩
            · refine ev_aload_0 92 d_re_readsNumber_92 ?_
              refine gw_get 93 15 3 d_re_readsNumber_93 lk_re_9 (W.1.2 15 (by decide) (by decide)) rfl (.long (lN (by_w B i p sz))) (gsG_eq _ _ _ _) ?_
              refine ev_ldc2 57344 96 d_re_readsNumber_96 kl_re_106 ?_
              refine ev_lcmp 99 d_re_readsNumber_99 ?_
              refine ev_ifge 100 113 d_re_readsNumber_100 (fun c100 => ?_) (fun c100 => ?_)
              · refine ev_aload_0 113 d_re_readsNumber_113 ?_
                refine gw_get 114 15 1 d_re_readsNumber_114 lk_re_19 (W.1.2 15 (by decide) (by decide)) rfl (.ref (am 10)) W1.2.2.1.2.1 ?_
                refine gw_get 117 10 1 d_re_readsNumber_117 lk_re_108 (W.1.2 10 (by decide) (by decide)) rfl (.ref (am 12)) W1.2.2.2.1.2.1 ?_
                refine ev_iload_1 120 d_re_readsNumber_120 ?_
                refine ev_aload_0 121 d_re_readsNumber_121 ?_
                refine gw_get 122 15 3 d_re_readsNumber_122 lk_re_9 (W.1.2 15 (by decide) (by decide)) rfl (.long (lN (by_w B i p sz))) (gsG_eq _ _ _ _) ?_
                refine gw_lst (j := it) 125 12 d_re_readsNumber_125 W.1.1 (W.1.2 12 (by decide) (by decide)) rfl (by rw [W.2.1.2.1]; exact hit) (by rw [W.2.1.2.1]; decide) ?_
                refine ev_iconst_1 126 d_re_readsNumber_126 ?_
                refine ev_zret 127 d_re_readsNumber_127 rfl ?_ ?_
                · rfl
                obtain ⟨M1, M2⟩ := hb5 c67
                exact ⟨_, _, rfl, rfl, Or.inr ⟨by rw [mo_rp0 hs (by omega) hr, if_neg (fun z => z.elim (fun z => c18 z.1) (fun z => c36 z.1)), if_neg (fun z => (by have z2 := z.2; rw [M1] at z2; exact ((lt_5 M2).mp z2).elim (fun z => c78 ((lg_cmp_gt _ _).mpr ((l_c 1114111 (by decide) (by omega)).mpr z))) (fun z => absurd ((l_c _ (m := 57344) (by omega) (by decide)).mpr z.2) (Int64.not_lt.mpr ((lg_cmp_ge _ _).mp c100)))))], rfl, rfl⟩⟩
              · refine ev_aload_0 103 d_re_readsNumber_103 ?_
                refine gw_get 104 15 2 d_re_readsNumber_104 lk_re_23 (W.1.2 15 (by decide) (by decide)) rfl (.ref (am 14)) W1.2.2.1.2.2 ?_
                refine ev_iconst_3 107 d_re_readsNumber_107 ?_
                refine ev_iload_3 108 d_re_readsNumber_108 ?_
                refine gw_callV 109 14 [.int 3, .int p] [] d_re_readsNumber_109 hZ (kc_re_33 (k9 := 0) (mc9 := 0) (ms9 := 0)) (hr_of hk0 (by decide) (by decide) (by decide)) (W.1.2 14 (by decide) (by decide)) rfl rfl (ht_tr_springs 3 p W1.1.1 (W.1.2 14 (by decide) (by decide))) (fun r9 w9 hw => ?_)
                obtain ⟨e1, e2⟩ := hw
                subst e1
                subst e2
                refine ev_eq (st' := [.int 0]) ?_
                refine ev_zret 112 d_re_readsNumber_112 rfl ?_ ?_
                · rfl
                obtain ⟨M1, M2⟩ := hb5 c67
                exact ⟨_, _, rfl, rfl, Or.inl ⟨3, p, _, by rw [mo_rp0 hs (by omega) hr, if_neg (fun z => z.elim (fun z => c18 z.1) (fun z => c36 z.1)), if_pos ⟨c67, by rw [M1]; exact (lt_5 M2).mpr (Or.inr ⟨(l_c 55295 (by decide) (by omega)).mp (Int64.not_le.mp (fun z => c89 ((lg_cmp_le _ _).mpr z))), (l_c _ (m := 57344) (by omega) (by decide)).mp (Int64.not_le.mp (fun z => c100 ((lg_cmp_ge _ _).mpr z)))⟩)⟩], rfl, rfl⟩⟩
      · refine ev_aload_0 39 d_re_readsNumber_39 ?_
        refine gw_get 40 15 3 d_re_readsNumber_40 lk_re_9 (W.1.2 15 (by decide) (by decide)) rfl (.long (lN (by_w B i p sz))) (gsG_eq _ _ _ _) ?_
        refine ev_aload_2 43 d_re_readsNumber_43 ?_
        refine gw_get 44 (100 + 3 * t) 1 d_re_readsNumber_44 lk_re_99 (hT.k0 ht) (hT.g0 ht) (.int (B 3 t)) ((hT.rk k1).f1 ht) ?_
        refine ev_i2l 47 d_re_readsNumber_47 ?_
        refine ev_lcmp 48 d_re_readsNumber_48 ?_
        refine ev_iflt 49 62 d_re_readsNumber_49 (fun c49 => ?_) (fun c49 => ?_)
        · refine ev_aload_2 62 d_re_readsNumber_62 ?_
          refine gw_get 63 (100 + 3 * t) 0 d_re_readsNumber_63 lk_re_48 (hT.k0 ht) (hT.g0 ht) (.int (B 2 t)) ((hT.rk k1).f0 ht) ?_
          refine ev_iconst_5 66 d_re_readsNumber_66 ?_
          refine ev_icmpne 67 113 d_re_readsNumber_67 (fun c67 => ?_) (fun c67 => ?_)
          · refine ev_aload_0 113 d_re_readsNumber_113 ?_
            refine gw_get 114 15 1 d_re_readsNumber_114 lk_re_19 (W.1.2 15 (by decide) (by decide)) rfl (.ref (am 10)) W1.2.2.1.2.1 ?_
            refine gw_get 117 10 1 d_re_readsNumber_117 lk_re_108 (W.1.2 10 (by decide) (by decide)) rfl (.ref (am 12)) W1.2.2.2.1.2.1 ?_
            refine ev_iload_1 120 d_re_readsNumber_120 ?_
            refine ev_aload_0 121 d_re_readsNumber_121 ?_
            refine gw_get 122 15 3 d_re_readsNumber_122 lk_re_9 (W.1.2 15 (by decide) (by decide)) rfl (.long (lN (by_w B i p sz))) (gsG_eq _ _ _ _) ?_
            refine gw_lst (j := it) 125 12 d_re_readsNumber_125 W.1.1 (W.1.2 12 (by decide) (by decide)) rfl (by rw [W.2.1.2.1]; exact hit) (by rw [W.2.1.2.1]; decide) ?_
            refine ev_iconst_1 126 d_re_readsNumber_126 ?_
            refine ev_zret 127 d_re_readsNumber_127 rfl ?_ ?_
            · rfl
            exact ⟨_, _, rfl, rfl, Or.inr ⟨by rw [mo_rp0 hs (by omega) hr, if_neg (fun z => z.elim (fun z => c18 z.1) (fun z => (by obtain ⟨b9, hb9, E1, E2⟩ := hb0 (Or.inr c36); exact z.2 (by rw [E1]; exact (l_bn hb9).mp (by rw [← E2]; exact (lg_cmp_lt _ _).mp c49))))), if_neg (fun z => c67 z.1)], rfl, rfl⟩⟩
          · refine ev_aload_0 70 d_re_readsNumber_70 ?_
            refine gw_get 71 15 3 d_re_readsNumber_71 lk_re_9 (W.1.2 15 (by decide) (by decide)) rfl (.long (lN (by_w B i p sz))) (gsG_eq _ _ _ _) ?_
            refine ev_ldc2 1114111 74 d_re_readsNumber_74 kl_re_102 ?_
            refine ev_lcmp 77 d_re_readsNumber_77 ?_
            refine ev_ifgt 78 103 d_re_readsNumber_78 (fun c78 => ?_) (fun c78 => ?_)
            · refine ev_aload_0 103 d_re_readsNumber_103 ?_
              refine gw_get 104 15 2 d_re_readsNumber_104 lk_re_23 (W.1.2 15 (by decide) (by decide)) rfl (.ref (am 14)) W1.2.2.1.2.2 ?_
              refine ev_iconst_3 107 d_re_readsNumber_107 ?_
              refine ev_iload_3 108 d_re_readsNumber_108 ?_
              refine gw_callV 109 14 [.int 3, .int p] [] d_re_readsNumber_109 hZ (kc_re_33 (k9 := 0) (mc9 := 0) (ms9 := 0)) (hr_of hk0 (by decide) (by decide) (by decide)) (W.1.2 14 (by decide) (by decide)) rfl rfl (ht_tr_springs 3 p W1.1.1 (W.1.2 14 (by decide) (by decide))) (fun r9 w9 hw => ?_)
              obtain ⟨e1, e2⟩ := hw
              subst e1
              subst e2
              refine ev_eq (st' := [.int 0]) ?_
              refine ev_zret 112 d_re_readsNumber_112 rfl ?_ ?_
              · rfl
              obtain ⟨M1, M2⟩ := hb5 c67
              exact ⟨_, _, rfl, rfl, Or.inl ⟨3, p, _, by rw [mo_rp0 hs (by omega) hr, if_neg (fun z => z.elim (fun z => c18 z.1) (fun z => (by obtain ⟨b9, hb9, E1, E2⟩ := hb0 (Or.inr c36); exact z.2 (by rw [E1]; exact (l_bn hb9).mp (by rw [← E2]; exact (lg_cmp_lt _ _).mp c49))))), if_pos ⟨c67, by rw [M1]; exact (lt_5 M2).mpr (Or.inl ((l_c 1114111 (by decide) (by omega)).mp ((lg_cmp_gt _ _).mp c78)))⟩], rfl, rfl⟩⟩
            · refine ev_aload_0 81 d_re_readsNumber_81 ?_
              refine gw_get 82 15 3 d_re_readsNumber_82 lk_re_9 (W.1.2 15 (by decide) (by decide)) rfl (.long (lN (by_w B i p sz))) (gsG_eq _ _ _ _) ?_
              refine ev_ldc2 55295 85 d_re_readsNumber_85 kl_re_104 ?_
              refine ev_lcmp 88 d_re_readsNumber_88 ?_
              refine ev_ifle 89 113 d_re_readsNumber_89 (fun c89 => ?_) (fun c89 => ?_)
              · refine ev_aload_0 113 d_re_readsNumber_113 ?_
                refine gw_get 114 15 1 d_re_readsNumber_114 lk_re_19 (W.1.2 15 (by decide) (by decide)) rfl (.ref (am 10)) W1.2.2.1.2.1 ?_
                refine gw_get 117 10 1 d_re_readsNumber_117 lk_re_108 (W.1.2 10 (by decide) (by decide)) rfl (.ref (am 12)) W1.2.2.2.1.2.1 ?_
                refine ev_iload_1 120 d_re_readsNumber_120 ?_
                refine ev_aload_0 121 d_re_readsNumber_121 ?_
                refine gw_get 122 15 3 d_re_readsNumber_122 lk_re_9 (W.1.2 15 (by decide) (by decide)) rfl (.long (lN (by_w B i p sz))) (gsG_eq _ _ _ _) ?_
                refine gw_lst (j := it) 125 12 d_re_readsNumber_125 W.1.1 (W.1.2 12 (by decide) (by decide)) rfl (by rw [W.2.1.2.1]; exact hit) (by rw [W.2.1.2.1]; decide) ?_
                refine ev_iconst_1 126 d_re_readsNumber_126 ?_
                refine ev_zret 127 d_re_readsNumber_127 rfl ?_ ?_
                · rfl
                obtain ⟨M1, M2⟩ := hb5 c67
                exact ⟨_, _, rfl, rfl, Or.inr ⟨by rw [mo_rp0 hs (by omega) hr, if_neg (fun z => z.elim (fun z => c18 z.1) (fun z => (by obtain ⟨b9, hb9, E1, E2⟩ := hb0 (Or.inr c36); exact z.2 (by rw [E1]; exact (l_bn hb9).mp (by rw [← E2]; exact (lg_cmp_lt _ _).mp c49))))), if_neg (fun z => (by have z2 := z.2; rw [M1] at z2; exact ((lt_5 M2).mp z2).elim (fun z => c78 ((lg_cmp_gt _ _).mpr ((l_c 1114111 (by decide) (by omega)).mpr z))) (fun z => absurd ((l_c 55295 (by decide) (by omega)).mpr z.1) (Int64.not_lt.mpr ((lg_cmp_le _ _).mp c89)))))], rfl, rfl⟩⟩
              · refine ev_aload_0 92 d_re_readsNumber_92 ?_
                refine gw_get 93 15 3 d_re_readsNumber_93 lk_re_9 (W.1.2 15 (by decide) (by decide)) rfl (.long (lN (by_w B i p sz))) (gsG_eq _ _ _ _) ?_
                refine ev_ldc2 57344 96 d_re_readsNumber_96 kl_re_106 ?_
                refine ev_lcmp 99 d_re_readsNumber_99 ?_
                refine ev_ifge 100 113 d_re_readsNumber_100 (fun c100 => ?_) (fun c100 => ?_)
                · refine ev_aload_0 113 d_re_readsNumber_113 ?_
                  refine gw_get 114 15 1 d_re_readsNumber_114 lk_re_19 (W.1.2 15 (by decide) (by decide)) rfl (.ref (am 10)) W1.2.2.1.2.1 ?_
                  refine gw_get 117 10 1 d_re_readsNumber_117 lk_re_108 (W.1.2 10 (by decide) (by decide)) rfl (.ref (am 12)) W1.2.2.2.1.2.1 ?_
                  refine ev_iload_1 120 d_re_readsNumber_120 ?_
                  refine ev_aload_0 121 d_re_readsNumber_121 ?_
                  refine gw_get 122 15 3 d_re_readsNumber_122 lk_re_9 (W.1.2 15 (by decide) (by decide)) rfl (.long (lN (by_w B i p sz))) (gsG_eq _ _ _ _) ?_
                  refine gw_lst (j := it) 125 12 d_re_readsNumber_125 W.1.1 (W.1.2 12 (by decide) (by decide)) rfl (by rw [W.2.1.2.1]; exact hit) (by rw [W.2.1.2.1]; decide) ?_
                  refine ev_iconst_1 126 d_re_readsNumber_126 ?_
                  refine ev_zret 127 d_re_readsNumber_127 rfl ?_ ?_
                  · rfl
                  obtain ⟨M1, M2⟩ := hb5 c67
                  exact ⟨_, _, rfl, rfl, Or.inr ⟨by rw [mo_rp0 hs (by omega) hr, if_neg (fun z => z.elim (fun z => c18 z.1) (fun z => (by obtain ⟨b9, hb9, E1, E2⟩ := hb0 (Or.inr c36); exact z.2 (by rw [E1]; exact (l_bn hb9).mp (by rw [← E2]; exact (lg_cmp_lt _ _).mp c49))))), if_neg (fun z => (by have z2 := z.2; rw [M1] at z2; exact ((lt_5 M2).mp z2).elim (fun z => c78 ((lg_cmp_gt _ _).mpr ((l_c 1114111 (by decide) (by omega)).mpr z))) (fun z => absurd ((l_c _ (m := 57344) (by omega) (by decide)).mpr z.2) (Int64.not_lt.mpr ((lg_cmp_ge _ _).mp c100)))))], rfl, rfl⟩⟩
                · refine ev_aload_0 103 d_re_readsNumber_103 ?_
                  refine gw_get 104 15 2 d_re_readsNumber_104 lk_re_23 (W.1.2 15 (by decide) (by decide)) rfl (.ref (am 14)) W1.2.2.1.2.2 ?_
                  refine ev_iconst_3 107 d_re_readsNumber_107 ?_
                  refine ev_iload_3 108 d_re_readsNumber_108 ?_
                  refine gw_callV 109 14 [.int 3, .int p] [] d_re_readsNumber_109 hZ (kc_re_33 (k9 := 0) (mc9 := 0) (ms9 := 0)) (hr_of hk0 (by decide) (by decide) (by decide)) (W.1.2 14 (by decide) (by decide)) rfl rfl (ht_tr_springs 3 p W1.1.1 (W.1.2 14 (by decide) (by decide))) (fun r9 w9 hw => ?_)
                  obtain ⟨e1, e2⟩ := hw
                  subst e1
                  subst e2
                  refine ev_eq (st' := [.int 0]) ?_
                  refine ev_zret 112 d_re_readsNumber_112 rfl ?_ ?_
                  · rfl
                  obtain ⟨M1, M2⟩ := hb5 c67
                  exact ⟨_, _, rfl, rfl, Or.inl ⟨3, p, _, by rw [mo_rp0 hs (by omega) hr, if_neg (fun z => z.elim (fun z => c18 z.1) (fun z => (by obtain ⟨b9, hb9, E1, E2⟩ := hb0 (Or.inr c36); exact z.2 (by rw [E1]; exact (l_bn hb9).mp (by rw [← E2]; exact (lg_cmp_lt _ _).mp c49))))), if_pos ⟨c67, by rw [M1]; exact (lt_5 M2).mpr (Or.inr ⟨(l_c 55295 (by decide) (by omega)).mp (Int64.not_le.mp (fun z => c89 ((lg_cmp_le _ _).mpr z))), (l_c _ (m := 57344) (by omega) (by decide)).mp (Int64.not_le.mp (fun z => c100 ((lg_cmp_ge _ _).mpr z)))⟩)⟩], rfl, rfl⟩⟩
        · refine ev_aload_0 52 d_re_readsNumber_52 ?_
          refine gw_get 53 15 2 d_re_readsNumber_53 lk_re_23 (W.1.2 15 (by decide) (by decide)) rfl (.ref (am 14)) W1.2.2.1.2.2 ?_
          refine ev_iconst_2 56 d_re_readsNumber_56 ?_
          refine ev_iload_3 57 d_re_readsNumber_57 ?_
          refine gw_callV 58 14 [.int 2, .int p] [] d_re_readsNumber_58 hZ (kc_re_33 (k9 := 0) (mc9 := 0) (ms9 := 0)) (hr_of hk0 (by decide) (by decide) (by decide)) (W.1.2 14 (by decide) (by decide)) rfl rfl (ht_tr_springs 2 p W1.1.1 (W.1.2 14 (by decide) (by decide))) (fun r9 w9 hw => ?_)
          obtain ⟨e1, e2⟩ := hw
          subst e1
          subst e2
          refine ev_eq (st' := [.int 0]) ?_
          refine ev_zret 61 d_re_readsNumber_61 rfl ?_ ?_
          · rfl
          obtain ⟨b9, hb9, E1, E2⟩ := hb0 (Or.inr c36)
          exact ⟨_, _, rfl, rfl, Or.inl ⟨2, p, _, by rw [mo_rp0 hs (by omega) hr, if_pos (Or.inr ⟨c36, fun z => c49 ((lg_cmp_lt _ _).mpr (by rw [E2]; exact (l_bn hb9).mpr (by rw [← E1]; exact z)))⟩)], rfl, rfl⟩⟩
    · refine ev_aload_0 21 d_re_readsNumber_21 ?_
      refine gw_get 22 15 3 d_re_readsNumber_22 lk_re_9 (W.1.2 15 (by decide) (by decide)) rfl (.long (lN (by_w B i p sz))) (gsG_eq _ _ _ _) ?_
      refine ev_lconst_1 25 d_re_readsNumber_25 ?_
      refine ev_lcmp 26 d_re_readsNumber_26 ?_
      refine ev_ifgt 27 52 d_re_readsNumber_27 (fun c27 => ?_) (fun c27 => ?_)
      · refine ev_aload_0 52 d_re_readsNumber_52 ?_
        refine gw_get 53 15 2 d_re_readsNumber_53 lk_re_23 (W.1.2 15 (by decide) (by decide)) rfl (.ref (am 14)) W1.2.2.1.2.2 ?_
        refine ev_iconst_2 56 d_re_readsNumber_56 ?_
        refine ev_iload_3 57 d_re_readsNumber_57 ?_
        refine gw_callV 58 14 [.int 2, .int p] [] d_re_readsNumber_58 hZ (kc_re_33 (k9 := 0) (mc9 := 0) (ms9 := 0)) (hr_of hk0 (by decide) (by decide) (by decide)) (W.1.2 14 (by decide) (by decide)) rfl rfl (ht_tr_springs 2 p W1.1.1 (W.1.2 14 (by decide) (by decide))) (fun r9 w9 hw => ?_)
        obtain ⟨e1, e2⟩ := hw
        subst e1
        subst e2
        refine ev_eq (st' := [.int 0]) ?_
        refine ev_zret 61 d_re_readsNumber_61 rfl ?_ ?_
        · rfl
        obtain ⟨b9, hb9, E1, E2⟩ := hb0 (Or.inl c18)
        exact ⟨_, _, rfl, rfl, Or.inl ⟨2, p, _, by rw [mo_rp0 hs (by omega) hr, if_pos (Or.inl ⟨c18, by rw [E1]; exact (l_b1 hb9).mp (by rw [← E2]; exact (lg_cmp_gt _ _).mp c27)⟩)], rfl, rfl⟩⟩
      · refine ev_aload_2 30 d_re_readsNumber_30 ?_
        refine gw_get 31 (100 + 3 * t) 0 d_re_readsNumber_31 lk_re_48 (hT.k0 ht) (hT.g0 ht) (.int (B 2 t)) ((hT.rk k1).f0 ht) ?_
        refine ev_bipush (7) 34 d_re_readsNumber_34 (by decide) ?_
        refine ev_icmpne 36 62 d_re_readsNumber_36 (fun c36 => ?_) (fun c36 => ?_)
        · refine ev_aload_2 62 d_re_readsNumber_62 ?_
          refine gw_get 63 (100 + 3 * t) 0 d_re_readsNumber_63 lk_re_48 (hT.k0 ht) (hT.g0 ht) (.int (B 2 t)) ((hT.rk k1).f0 ht) ?_
          refine ev_iconst_5 66 d_re_readsNumber_66 ?_
          refine ev_icmpne 67 113 d_re_readsNumber_67 (fun c67 => ?_) (fun c67 => ?_)
          · refine ev_aload_0 113 d_re_readsNumber_113 ?_
            refine gw_get 114 15 1 d_re_readsNumber_114 lk_re_19 (W.1.2 15 (by decide) (by decide)) rfl (.ref (am 10)) W1.2.2.1.2.1 ?_
            refine gw_get 117 10 1 d_re_readsNumber_117 lk_re_108 (W.1.2 10 (by decide) (by decide)) rfl (.ref (am 12)) W1.2.2.2.1.2.1 ?_
            refine ev_iload_1 120 d_re_readsNumber_120 ?_
            refine ev_aload_0 121 d_re_readsNumber_121 ?_
            refine gw_get 122 15 3 d_re_readsNumber_122 lk_re_9 (W.1.2 15 (by decide) (by decide)) rfl (.long (lN (by_w B i p sz))) (gsG_eq _ _ _ _) ?_
            refine gw_lst (j := it) 125 12 d_re_readsNumber_125 W.1.1 (W.1.2 12 (by decide) (by decide)) rfl (by rw [W.2.1.2.1]; exact hit) (by rw [W.2.1.2.1]; decide) ?_
            refine ev_iconst_1 126 d_re_readsNumber_126 ?_
            refine ev_zret 127 d_re_readsNumber_127 rfl ?_ ?_
            · rfl
            exact ⟨_, _, rfl, rfl, Or.inr ⟨by rw [mo_rp0 hs (by omega) hr, if_neg (fun z => z.elim (fun z => (by obtain ⟨b9, hb9, E1, E2⟩ := hb0 (Or.inl c18); exact c27 ((lg_cmp_gt _ _).mpr (by rw [E2]; exact (l_b1 hb9).mpr (by rw [← E1]; exact z.2))))) (fun z => c36 z.1)), if_neg (fun z => c67 z.1)], rfl, rfl⟩⟩
          · refine ev_aload_0 70 d_re_readsNumber_70 ?_
            refine gw_get 71 15 3 d_re_readsNumber_71 lk_re_9 (W.1.2 15 (by decide) (by decide)) rfl (.long (lN (by_w B i p sz))) (gsG_eq _ _ _ _) ?_
            refine ev_ldc2 1114111 74 d_re_readsNumber_74 kl_re_102 ?_
            refine ev_lcmp 77 d_re_readsNumber_77 ?_
            refine ev_ifgt 78 103 d_re_readsNumber_78 (fun c78 => ?_) (fun c78 => ?_)
            · refine ev_aload_0 103 d_re_readsNumber_103 ?_
              refine gw_get 104 15 2 d_re_readsNumber_104 lk_re_23 (W.1.2 15 (by decide) (by decide)) rfl (.ref (am 14)) W1.2.2.1.2.2 ?_
              refine ev_iconst_3 107 d_re_readsNumber_107 ?_
              refine ev_iload_3 108 d_re_readsNumber_108 ?_
              refine gw_callV 109 14 [.int 3, .int p] [] d_re_readsNumber_109 hZ (kc_re_33 (k9 := 0) (mc9 := 0) (ms9 := 0)) (hr_of hk0 (by decide) (by decide) (by decide)) (W.1.2 14 (by decide) (by decide)) rfl rfl (ht_tr_springs 3 p W1.1.1 (W.1.2 14 (by decide) (by decide))) (fun r9 w9 hw => ?_)
              obtain ⟨e1, e2⟩ := hw
              subst e1
              subst e2
              refine ev_eq (st' := [.int 0]) ?_
              refine ev_zret 112 d_re_readsNumber_112 rfl ?_ ?_
              · rfl
              obtain ⟨M1, M2⟩ := hb5 c67
              exact ⟨_, _, rfl, rfl, Or.inl ⟨3, p, _, by rw [mo_rp0 hs (by omega) hr, if_neg (fun z => z.elim (fun z => (by obtain ⟨b9, hb9, E1, E2⟩ := hb0 (Or.inl c18); exact c27 ((lg_cmp_gt _ _).mpr (by rw [E2]; exact (l_b1 hb9).mpr (by rw [← E1]; exact z.2))))) (fun z => c36 z.1)), if_pos ⟨c67, by rw [M1]; exact (lt_5 M2).mpr (Or.inl ((l_c 1114111 (by decide) (by omega)).mp ((lg_cmp_gt _ _).mp c78)))⟩], rfl, rfl⟩⟩
            · refine ev_aload_0 81 d_re_readsNumber_81 ?_
              refine gw_get 82 15 3 d_re_readsNumber_82 lk_re_9 (W.1.2 15 (by decide) (by decide)) rfl (.long (lN (by_w B i p sz))) (gsG_eq _ _ _ _) ?_
              refine ev_ldc2 55295 85 d_re_readsNumber_85 kl_re_104 ?_
              refine ev_lcmp 88 d_re_readsNumber_88 ?_
              refine ev_ifle 89 113 d_re_readsNumber_89 (fun c89 => ?_) (fun c89 => ?_)
              · refine ev_aload_0 113 d_re_readsNumber_113 ?_
                refine gw_get 114 15 1 d_re_readsNumber_114 lk_re_19 (W.1.2 15 (by decide) (by decide)) rfl (.ref (am 10)) W1.2.2.1.2.1 ?_
                refine gw_get 117 10 1 d_re_readsNumber_117 lk_re_108 (W.1.2 10 (by decide) (by decide)) rfl (.ref (am 12)) W1.2.2.2.1.2.1 ?_
                refine ev_iload_1 120 d_re_readsNumber_120 ?_
                refine ev_aload_0 121 d_re_readsNumber_121 ?_
                refine gw_get 122 15 3 d_re_readsNumber_122 lk_re_9 (W.1.2 15 (by decide) (by decide)) rfl (.long (lN (by_w B i p sz))) (gsG_eq _ _ _ _) ?_
                refine gw_lst (j := it) 125 12 d_re_readsNumber_125 W.1.1 (W.1.2 12 (by decide) (by decide)) rfl (by rw [W.2.1.2.1]; exact hit) (by rw [W.2.1.2.1]; decide) ?_
                refine ev_iconst_1 126 d_re_readsNumber_126 ?_
                refine ev_zret 127 d_re_readsNumber_127 rfl ?_ ?_
                · rfl
                obtain ⟨M1, M2⟩ := hb5 c67
                exact ⟨_, _, rfl, rfl, Or.inr ⟨by rw [mo_rp0 hs (by omega) hr, if_neg (fun z => z.elim (fun z => (by obtain ⟨b9, hb9, E1, E2⟩ := hb0 (Or.inl c18); exact c27 ((lg_cmp_gt _ _).mpr (by rw [E2]; exact (l_b1 hb9).mpr (by rw [← E1]; exact z.2))))) (fun z => c36 z.1)), if_neg (fun z => (by have z2 := z.2; rw [M1] at z2; exact ((lt_5 M2).mp z2).elim (fun z => c78 ((lg_cmp_gt _ _).mpr ((l_c 1114111 (by decide) (by omega)).mpr z))) (fun z => absurd ((l_c 55295 (by decide) (by omega)).mpr z.1) (Int64.not_lt.mpr ((lg_cmp_le _ _).mp c89)))))], rfl, rfl⟩⟩
              · refine ev_aload_0 92 d_re_readsNumber_92 ?_
                refine gw_get 93 15 3 d_re_readsNumber_93 lk_re_9 (W.1.2 15 (by decide) (by decide)) rfl (.long (lN (by_w B i p sz))) (gsG_eq _ _ _ _) ?_
                refine ev_ldc2 57344 96 d_re_readsNumber_96 kl_re_106 ?_
                refine ev_lcmp 99 d_re_readsNumber_99 ?_
                refine ev_ifge 100 113 d_re_readsNumber_100 (fun c100 => ?_) (fun c100 => ?_)
                · refine ev_aload_0 113 d_re_readsNumber_113 ?_
                  refine gw_get 114 15 1 d_re_readsNumber_114 lk_re_19 (W.1.2 15 (by decide) (by decide)) rfl (.ref (am 10)) W1.2.2.1.2.1 ?_
                  refine gw_get 117 10 1 d_re_readsNumber_117 lk_re_108 (W.1.2 10 (by decide) (by decide)) rfl (.ref (am 12)) W1.2.2.2.1.2.1 ?_
                  refine ev_iload_1 120 d_re_readsNumber_120 ?_
                  refine ev_aload_0 121 d_re_readsNumber_121 ?_
                  refine gw_get 122 15 3 d_re_readsNumber_122 lk_re_9 (W.1.2 15 (by decide) (by decide)) rfl (.long (lN (by_w B i p sz))) (gsG_eq _ _ _ _) ?_
                  refine gw_lst (j := it) 125 12 d_re_readsNumber_125 W.1.1 (W.1.2 12 (by decide) (by decide)) rfl (by rw [W.2.1.2.1]; exact hit) (by rw [W.2.1.2.1]; decide) ?_
                  refine ev_iconst_1 126 d_re_readsNumber_126 ?_
                  refine ev_zret 127 d_re_readsNumber_127 rfl ?_ ?_
                  · rfl
                  obtain ⟨M1, M2⟩ := hb5 c67
                  exact ⟨_, _, rfl, rfl, Or.inr ⟨by rw [mo_rp0 hs (by omega) hr, if_neg (fun z => z.elim (fun z => (by obtain ⟨b9, hb9, E1, E2⟩ := hb0 (Or.inl c18); exact c27 ((lg_cmp_gt _ _).mpr (by rw [E2]; exact (l_b1 hb9).mpr (by rw [← E1]; exact z.2))))) (fun z => c36 z.1)), if_neg (fun z => (by have z2 := z.2; rw [M1] at z2; exact ((lt_5 M2).mp z2).elim (fun z => c78 ((lg_cmp_gt _ _).mpr ((l_c 1114111 (by decide) (by omega)).mpr z))) (fun z => absurd ((l_c _ (m := 57344) (by omega) (by decide)).mpr z.2) (Int64.not_lt.mpr ((lg_cmp_ge _ _).mp c100)))))], rfl, rfl⟩⟩
                · refine ev_aload_0 103 d_re_readsNumber_103 ?_
                  refine gw_get 104 15 2 d_re_readsNumber_104 lk_re_23 (W.1.2 15 (by decide) (by decide)) rfl (.ref (am 14)) W1.2.2.1.2.2 ?_
                  refine ev_iconst_3 107 d_re_readsNumber_107 ?_
                  refine ev_iload_3 108 d_re_readsNumber_108 ?_
                  refine gw_callV 109 14 [.int 3, .int p] [] d_re_readsNumber_109 hZ (kc_re_33 (k9 := 0) (mc9 := 0) (ms9 := 0)) (hr_of hk0 (by decide) (by decide) (by decide)) (W.1.2 14 (by decide) (by decide)) rfl rfl (ht_tr_springs 3 p W1.1.1 (W.1.2 14 (by decide) (by decide))) (fun r9 w9 hw => ?_)
                  obtain ⟨e1, e2⟩ := hw
                  subst e1
                  subst e2
                  refine ev_eq (st' := [.int 0]) ?_
                  refine ev_zret 112 d_re_readsNumber_112 rfl ?_ ?_
                  · rfl
                  obtain ⟨M1, M2⟩ := hb5 c67
                  exact ⟨_, _, rfl, rfl, Or.inl ⟨3, p, _, by rw [mo_rp0 hs (by omega) hr, if_neg (fun z => z.elim (fun z => (by obtain ⟨b9, hb9, E1, E2⟩ := hb0 (Or.inl c18); exact c27 ((lg_cmp_gt _ _).mpr (by rw [E2]; exact (l_b1 hb9).mpr (by rw [← E1]; exact z.2))))) (fun z => c36 z.1)), if_pos ⟨c67, by rw [M1]; exact (lt_5 M2).mpr (Or.inr ⟨(l_c 55295 (by decide) (by omega)).mp (Int64.not_le.mp (fun z => c89 ((lg_cmp_le _ _).mpr z))), (l_c _ (m := 57344) (by omega) (by decide)).mp (Int64.not_le.mp (fun z => c100 ((lg_cmp_ge _ _).mpr z)))⟩)⟩], rfl, rfl⟩⟩
        · refine ev_aload_0 39 d_re_readsNumber_39 ?_
          refine gw_get 40 15 3 d_re_readsNumber_40 lk_re_9 (W.1.2 15 (by decide) (by decide)) rfl (.long (lN (by_w B i p sz))) (gsG_eq _ _ _ _) ?_
          refine ev_aload_2 43 d_re_readsNumber_43 ?_
          refine gw_get 44 (100 + 3 * t) 1 d_re_readsNumber_44 lk_re_99 (hT.k0 ht) (hT.g0 ht) (.int (B 3 t)) ((hT.rk k1).f1 ht) ?_
          refine ev_i2l 47 d_re_readsNumber_47 ?_
          refine ev_lcmp 48 d_re_readsNumber_48 ?_
          refine ev_iflt 49 62 d_re_readsNumber_49 (fun c49 => ?_) (fun c49 => ?_)
          · refine ev_aload_2 62 d_re_readsNumber_62 ?_
            refine gw_get 63 (100 + 3 * t) 0 d_re_readsNumber_63 lk_re_48 (hT.k0 ht) (hT.g0 ht) (.int (B 2 t)) ((hT.rk k1).f0 ht) ?_
            refine ev_iconst_5 66 d_re_readsNumber_66 ?_
            refine ev_icmpne 67 113 d_re_readsNumber_67 (fun c67 => ?_) (fun c67 => ?_)
            · refine ev_aload_0 113 d_re_readsNumber_113 ?_
              refine gw_get 114 15 1 d_re_readsNumber_114 lk_re_19 (W.1.2 15 (by decide) (by decide)) rfl (.ref (am 10)) W1.2.2.1.2.1 ?_
              refine gw_get 117 10 1 d_re_readsNumber_117 lk_re_108 (W.1.2 10 (by decide) (by decide)) rfl (.ref (am 12)) W1.2.2.2.1.2.1 ?_
              refine ev_iload_1 120 d_re_readsNumber_120 ?_
              refine ev_aload_0 121 d_re_readsNumber_121 ?_
              refine gw_get 122 15 3 d_re_readsNumber_122 lk_re_9 (W.1.2 15 (by decide) (by decide)) rfl (.long (lN (by_w B i p sz))) (gsG_eq _ _ _ _) ?_
              refine gw_lst (j := it) 125 12 d_re_readsNumber_125 W.1.1 (W.1.2 12 (by decide) (by decide)) rfl (by rw [W.2.1.2.1]; exact hit) (by rw [W.2.1.2.1]; decide) ?_
              refine ev_iconst_1 126 d_re_readsNumber_126 ?_
              refine ev_zret 127 d_re_readsNumber_127 rfl ?_ ?_
              · rfl
              exact ⟨_, _, rfl, rfl, Or.inr ⟨by rw [mo_rp0 hs (by omega) hr, if_neg (fun z => z.elim (fun z => (by obtain ⟨b9, hb9, E1, E2⟩ := hb0 (Or.inl c18); exact c27 ((lg_cmp_gt _ _).mpr (by rw [E2]; exact (l_b1 hb9).mpr (by rw [← E1]; exact z.2))))) (fun z => (by obtain ⟨b9, hb9, E1, E2⟩ := hb0 (Or.inr c36); exact z.2 (by rw [E1]; exact (l_bn hb9).mp (by rw [← E2]; exact (lg_cmp_lt _ _).mp c49))))), if_neg (fun z => c67 z.1)], rfl, rfl⟩⟩
            · refine ev_aload_0 70 d_re_readsNumber_70 ?_
              refine gw_get 71 15 3 d_re_readsNumber_71 lk_re_9 (W.1.2 15 (by decide) (by decide)) rfl (.long (lN (by_w B i p sz))) (gsG_eq _ _ _ _) ?_
              refine ev_ldc2 1114111 74 d_re_readsNumber_74 kl_re_102 ?_
              refine ev_lcmp 77 d_re_readsNumber_77 ?_
              refine ev_ifgt 78 103 d_re_readsNumber_78 (fun c78 => ?_) (fun c78 => ?_)
              · refine ev_aload_0 103 d_re_readsNumber_103 ?_
                refine gw_get 104 15 2 d_re_readsNumber_104 lk_re_23 (W.1.2 15 (by decide) (by decide)) rfl (.ref (am 14)) W1.2.2.1.2.2 ?_
                refine ev_iconst_3 107 d_re_readsNumber_107 ?_
                refine ev_iload_3 108 d_re_readsNumber_108 ?_
                refine gw_callV 109 14 [.int 3, .int p] [] d_re_readsNumber_109 hZ (kc_re_33 (k9 := 0) (mc9 := 0) (ms9 := 0)) (hr_of hk0 (by decide) (by decide) (by decide)) (W.1.2 14 (by decide) (by decide)) rfl rfl (ht_tr_springs 3 p W1.1.1 (W.1.2 14 (by decide) (by decide))) (fun r9 w9 hw => ?_)
                obtain ⟨e1, e2⟩ := hw
                subst e1
                subst e2
                refine ev_eq (st' := [.int 0]) ?_
                refine ev_zret 112 d_re_readsNumber_112 rfl ?_ ?_
                · rfl
                obtain ⟨M1, M2⟩ := hb5 c67
                exact ⟨_, _, rfl, rfl, Or.inl ⟨3, p, _, by rw [mo_rp0 hs (by omega) hr, if_neg (fun z => z.elim (fun z => (by obtain ⟨b9, hb9, E1, E2⟩ := hb0 (Or.inl c18); exact c27 ((lg_cmp_gt _ _).mpr (by rw [E2]; exact (l_b1 hb9).mpr (by rw [← E1]; exact z.2))))) (fun z => (by obtain ⟨b9, hb9, E1, E2⟩ := hb0 (Or.inr c36); exact z.2 (by rw [E1]; exact (l_bn hb9).mp (by rw [← E2]; exact (lg_cmp_lt _ _).mp c49))))), if_pos ⟨c67, by rw [M1]; exact (lt_5 M2).mpr (Or.inl ((l_c 1114111 (by decide) (by omega)).mp ((lg_cmp_gt _ _).mp c78)))⟩], rfl, rfl⟩⟩
              · refine ev_aload_0 81 d_re_readsNumber_81 ?_
                refine gw_get 82 15 3 d_re_readsNumber_82 lk_re_9 (W.1.2 15 (by decide) (by decide)) rfl (.long (lN (by_w B i p sz))) (gsG_eq _ _ _ _) ?_
                refine ev_ldc2 55295 85 d_re_readsNumber_85 kl_re_104 ?_
                refine ev_lcmp 88 d_re_readsNumber_88 ?_
                refine ev_ifle 89 113 d_re_readsNumber_89 (fun c89 => ?_) (fun c89 => ?_)
                · refine ev_aload_0 113 d_re_readsNumber_113 ?_
                  refine gw_get 114 15 1 d_re_readsNumber_114 lk_re_19 (W.1.2 15 (by decide) (by decide)) rfl (.ref (am 10)) W1.2.2.1.2.1 ?_
                  refine gw_get 117 10 1 d_re_readsNumber_117 lk_re_108 (W.1.2 10 (by decide) (by decide)) rfl (.ref (am 12)) W1.2.2.2.1.2.1 ?_
                  refine ev_iload_1 120 d_re_readsNumber_120 ?_
                  refine ev_aload_0 121 d_re_readsNumber_121 ?_
                  refine gw_get 122 15 3 d_re_readsNumber_122 lk_re_9 (W.1.2 15 (by decide) (by decide)) rfl (.long (lN (by_w B i p sz))) (gsG_eq _ _ _ _) ?_
                  refine gw_lst (j := it) 125 12 d_re_readsNumber_125 W.1.1 (W.1.2 12 (by decide) (by decide)) rfl (by rw [W.2.1.2.1]; exact hit) (by rw [W.2.1.2.1]; decide) ?_
                  refine ev_iconst_1 126 d_re_readsNumber_126 ?_
                  refine ev_zret 127 d_re_readsNumber_127 rfl ?_ ?_
                  · rfl
                  obtain ⟨M1, M2⟩ := hb5 c67
                  exact ⟨_, _, rfl, rfl, Or.inr ⟨by rw [mo_rp0 hs (by omega) hr, if_neg (fun z => z.elim (fun z => (by obtain ⟨b9, hb9, E1, E2⟩ := hb0 (Or.inl c18); exact c27 ((lg_cmp_gt _ _).mpr (by rw [E2]; exact (l_b1 hb9).mpr (by rw [← E1]; exact z.2))))) (fun z => (by obtain ⟨b9, hb9, E1, E2⟩ := hb0 (Or.inr c36); exact z.2 (by rw [E1]; exact (l_bn hb9).mp (by rw [← E2]; exact (lg_cmp_lt _ _).mp c49))))), if_neg (fun z => (by have z2 := z.2; rw [M1] at z2; exact ((lt_5 M2).mp z2).elim (fun z => c78 ((lg_cmp_gt _ _).mpr ((l_c 1114111 (by decide) (by omega)).mpr z))) (fun z => absurd ((l_c 55295 (by decide) (by omega)).mpr z.1) (Int64.not_lt.mpr ((lg_cmp_le _ _).mp c89)))))], rfl, rfl⟩⟩
                · refine ev_aload_0 92 d_re_readsNumber_92 ?_
                  refine gw_get 93 15 3 d_re_readsNumber_93 lk_re_9 (W.1.2 15 (by decide) (by decide)) rfl (.long (lN (by_w B i p sz))) (gsG_eq _ _ _ _) ?_
                  refine ev_ldc2 57344 96 d_re_readsNumber_96 kl_re_106 ?_
                  refine ev_lcmp 99 d_re_readsNumber_99 ?_
                  refine ev_ifge 100 113 d_re_readsNumber_100 (fun c100 => ?_) (fun c100 => ?_)
                  · refine ev_aload_0 113 d_re_readsNumber_113 ?_
                    refine gw_get 114 15 1 d_re_readsNumber_114 lk_re_19 (W.1.2 15 (by decide) (by decide)) rfl (.ref (am 10)) W1.2.2.1.2.1 ?_
                    refine gw_get 117 10 1 d_re_readsNumber_117 lk_re_108 (W.1.2 10 (by decide) (by decide)) rfl (.ref (am 12)) W1.2.2.2.1.2.1 ?_
                    refine ev_iload_1 120 d_re_readsNumber_120 ?_
                    refine ev_aload_0 121 d_re_readsNumber_121 ?_
                    refine gw_get 122 15 3 d_re_readsNumber_122 lk_re_9 (W.1.2 15 (by decide) (by decide)) rfl (.long (lN (by_w B i p sz))) (gsG_eq _ _ _ _) ?_
                    refine gw_lst (j := it) 125 12 d_re_readsNumber_125 W.1.1 (W.1.2 12 (by decide) (by decide)) rfl (by rw [W.2.1.2.1]; exact hit) (by rw [W.2.1.2.1]; decide) ?_
                    refine ev_iconst_1 126 d_re_readsNumber_126 ?_
                    refine ev_zret 127 d_re_readsNumber_127 rfl ?_ ?_
                    · rfl
                    obtain ⟨M1, M2⟩ := hb5 c67
                    exact ⟨_, _, rfl, rfl, Or.inr ⟨by rw [mo_rp0 hs (by omega) hr, if_neg (fun z => z.elim (fun z => (by obtain ⟨b9, hb9, E1, E2⟩ := hb0 (Or.inl c18); exact c27 ((lg_cmp_gt _ _).mpr (by rw [E2]; exact (l_b1 hb9).mpr (by rw [← E1]; exact z.2))))) (fun z => (by obtain ⟨b9, hb9, E1, E2⟩ := hb0 (Or.inr c36); exact z.2 (by rw [E1]; exact (l_bn hb9).mp (by rw [← E2]; exact (lg_cmp_lt _ _).mp c49))))), if_neg (fun z => (by have z2 := z.2; rw [M1] at z2; exact ((lt_5 M2).mp z2).elim (fun z => c78 ((lg_cmp_gt _ _).mpr ((l_c 1114111 (by decide) (by omega)).mpr z))) (fun z => absurd ((l_c _ (m := 57344) (by omega) (by decide)).mpr z.2) (Int64.not_lt.mpr ((lg_cmp_ge _ _).mp c100)))))], rfl, rfl⟩⟩
                  · refine ev_aload_0 103 d_re_readsNumber_103 ?_
                    refine gw_get 104 15 2 d_re_readsNumber_104 lk_re_23 (W.1.2 15 (by decide) (by decide)) rfl (.ref (am 14)) W1.2.2.1.2.2 ?_
                    refine ev_iconst_3 107 d_re_readsNumber_107 ?_
                    refine ev_iload_3 108 d_re_readsNumber_108 ?_
                    refine gw_callV 109 14 [.int 3, .int p] [] d_re_readsNumber_109 hZ (kc_re_33 (k9 := 0) (mc9 := 0) (ms9 := 0)) (hr_of hk0 (by decide) (by decide) (by decide)) (W.1.2 14 (by decide) (by decide)) rfl rfl (ht_tr_springs 3 p W1.1.1 (W.1.2 14 (by decide) (by decide))) (fun r9 w9 hw => ?_)
                    obtain ⟨e1, e2⟩ := hw
                    subst e1
                    subst e2
                    refine ev_eq (st' := [.int 0]) ?_
                    refine ev_zret 112 d_re_readsNumber_112 rfl ?_ ?_
                    · rfl
                    obtain ⟨M1, M2⟩ := hb5 c67
                    exact ⟨_, _, rfl, rfl, Or.inl ⟨3, p, _, by rw [mo_rp0 hs (by omega) hr, if_neg (fun z => z.elim (fun z => (by obtain ⟨b9, hb9, E1, E2⟩ := hb0 (Or.inl c18); exact c27 ((lg_cmp_gt _ _).mpr (by rw [E2]; exact (l_b1 hb9).mpr (by rw [← E1]; exact z.2))))) (fun z => (by obtain ⟨b9, hb9, E1, E2⟩ := hb0 (Or.inr c36); exact z.2 (by rw [E1]; exact (l_bn hb9).mp (by rw [← E2]; exact (lg_cmp_lt _ _).mp c49))))), if_pos ⟨c67, by rw [M1]; exact (lt_5 M2).mpr (Or.inr ⟨(l_c 55295 (by decide) (by omega)).mp (Int64.not_le.mp (fun z => c89 ((lg_cmp_le _ _).mpr z))), (l_c _ (m := 57344) (by omega) (by decide)).mp (Int64.not_le.mp (fun z => c100 ((lg_cmp_ge _ _).mpr z)))⟩)⟩], rfl, rfl⟩⟩
          · refine ev_aload_0 52 d_re_readsNumber_52 ?_
            refine gw_get 53 15 2 d_re_readsNumber_53 lk_re_23 (W.1.2 15 (by decide) (by decide)) rfl (.ref (am 14)) W1.2.2.1.2.2 ?_
            refine ev_iconst_2 56 d_re_readsNumber_56 ?_
            refine ev_iload_3 57 d_re_readsNumber_57 ?_
            refine gw_callV 58 14 [.int 2, .int p] [] d_re_readsNumber_58 hZ (kc_re_33 (k9 := 0) (mc9 := 0) (ms9 := 0)) (hr_of hk0 (by decide) (by decide) (by decide)) (W.1.2 14 (by decide) (by decide)) rfl rfl (ht_tr_springs 2 p W1.1.1 (W.1.2 14 (by decide) (by decide))) (fun r9 w9 hw => ?_)
            obtain ⟨e1, e2⟩ := hw
            subst e1
            subst e2
            refine ev_eq (st' := [.int 0]) ?_
            refine ev_zret 61 d_re_readsNumber_61 rfl ?_ ?_
            · rfl
            obtain ⟨b9, hb9, E1, E2⟩ := hb0 (Or.inr c36)
            exact ⟨_, _, rfl, rfl, Or.inl ⟨2, p, _, by rw [mo_rp0 hs (by omega) hr, if_pos (Or.inr ⟨c36, fun z => c49 ((lg_cmp_lt _ _).mpr (by rw [E2]; exact (l_bn hb9).mpr (by rw [← E1]; exact z)))⟩)], rfl, rfl⟩⟩
  · obtain ⟨q, v, hr, e9⟩ : ∃ q v, mo_rg p sz = some q ∧ S1 = sp_S (gsG S 15 3 v) 1 q := by
      rcases hb with ⟨q, v, h1, h2, h3⟩ | ⟨h1, h2, h3⟩
      · exact ⟨q, v, h1, h3⟩
      · exact absurd (h2.symm.trans c9) (by decide)
    subst e9
    refine ev_iconst_0 12 d_re_readsNumber_12 ?_
    refine ev_zret 13 d_re_readsNumber_13 rfl ?_ ?_
    · rfl
    exact ⟨_, _, rfl, rfl, Or.inl ⟨1, q, v, mo_rp1 hs (by omega) hr, rfl, rfl⟩⟩

set_option maxHeartbeats 4000000 in
set_option maxRecDepth 100000 in
theorem ht_re_readsPlaceAndCount {l : Launch} {D : va_G} {tl : List (ClassId × FieldType)} {Z : (Nat → Prop) → State → Heap → Prop} {K : List Nat} {am : Nat → Nat} {ks : Nat → ClassId} {N : Nat → Nat} {S : gS} {k : Nat} (it : Nat) (p : Int32) {B : Nat → Nat → Int32} {i : Nat} (hZ : ev_Zok Z) (hNw : hc_ZN Z) (W : rd_w K am N S i) (hM : me_R S B i) (h8 : mo_b8 B) (hit : it < 200) (hk2 : 2 < k) : MT (hc_π l D ks tl Z) (m_re_readsPlaceAndCount k 0 0) 0 0 [.ref (am 15), .int (nI it), .int p] (gw K am ks N S) (fun r w => ∃ y S1, w = gw K am ks N S1 ∧ r = some (.int y) ∧ ((∃ q v, mo_rg p 4 = some q ∧ y = 0 ∧ S1 = sp_S (gsG S 15 3 v) 1 q) ∨ (mo_rg p 4 = none ∧ y = 1 ∧ S1 = gsA (gsL (gsG S 15 3 (.long (lN (by_w B i p 4)))) 12 it (lN (by_w B i p 4 % 65536))) 13 it (nI (by_w B i p 4 / 65536))))) := by
  refine mt_of pl_re rfl (Nat.le_of_ble_eq_true rfl) (ev_eq (lv' := [some (.ref (am 15)), some (.int (nI it)), some (.int p)]) ?_)
  refine ev_aload_0 0 d_re_readsPlaceAndCount_0 ?_
  refine ev_iload_2 1 d_re_readsPlaceAndCount_1 ?_
  refine ev_iconst_4 2 d_re_readsPlaceAndCount_2 ?_
  refine gw_callV 3 15 [.int p, .int (4)] [] d_re_readsPlaceAndCount_3 hZ (kc_re_96 (k9 := 2) (mc9 := 0) (ms9 := 0)) (hr_of hk2 (by decide) (by decide) (by decide)) (W.1.2 15 (by decide) (by decide)) rfl rfl (ht_re_readsBytes p 4 hZ hNw W hM h8 (by omega) (by decide)) (fun r9 w9 hw => ?_)
  obtain ⟨y, S1, e1, e2, hb⟩ := hw
  subst e1
  subst e2
  refine ev_eq (st' := [.int y]) ?_
  refine ev_ifne 6 11 d_re_readsPlaceAndCount_6 (fun c6 => ?_) (fun c6 => ?_)
  · obtain ⟨hr, e9⟩ : mo_rg p 4 = none ∧ S1 = gsG S 15 3 (.long (lN (by_w B i p 4))) := by
      rcases hb with ⟨q, v, h1, h2, h3⟩ | ⟨h1, h2, h3⟩
      · exact absurd h2 c6
      · exact ⟨h1, h3⟩
    subst e9
    have k1 : rkp S (gsG S 15 3 (.long (lN (by_w B i p 4)))) := (rkp.rf S).by
    have W1 := W.rk k1
    refine ev_aload_0 11 d_re_readsPlaceAndCount_11 ?_
    refine gw_get 12 15 1 d_re_readsPlaceAndCount_12 lk_re_19 (W.1.2 15 (by decide) (by decide)) rfl (.ref (am 10)) W1.2.2.1.2.1 ?_
    refine gw_get 15 10 1 d_re_readsPlaceAndCount_15 lk_re_108 (W.1.2 10 (by decide) (by decide)) rfl (.ref (am 12)) W1.2.2.2.1.2.1 ?_
    refine ev_iload_1 18 d_re_readsPlaceAndCount_18 ?_
    refine ev_aload_0 19 d_re_readsPlaceAndCount_19 ?_
    refine gw_get 20 15 3 d_re_readsPlaceAndCount_20 lk_re_9 (W.1.2 15 (by decide) (by decide)) rfl (.long (lN (by_w B i p 4))) (gsG_eq S 15 3 _) ?_
    refine ev_ldc2 65535 23 d_re_readsPlaceAndCount_23 kl_re_112 ?_
    refine ev_land 26 d_re_readsPlaceAndCount_26 ?_
    refine ev_eq (st' := [.long (lN (by_w B i p 4 % 65536)), .int (nI it), .ref (am 12)]) ?_ (h2 := by rw [by_a16])
    refine gw_lst (j := it) 27 12 d_re_readsPlaceAndCount_27 W.1.1 (W.1.2 12 (by decide) (by decide)) rfl (by rw [W.2.1.2.1]; exact hit) (by rw [W.2.1.2.1]; decide) ?_
    refine ev_aload_0 28 d_re_readsPlaceAndCount_28 ?_
    refine gw_get 29 15 1 d_re_readsPlaceAndCount_29 lk_re_19 (W.1.2 15 (by decide) (by decide)) rfl (.ref (am 10)) W1.2.2.1.2.1 ?_
    refine gw_get 32 10 2 d_re_readsPlaceAndCount_32 lk_re_114 (W.1.2 10 (by decide) (by decide)) rfl (.ref (am 13)) W1.2.2.2.1.2.2 ?_
    refine ev_iload_1 35 d_re_readsPlaceAndCount_35 ?_
    refine ev_aload_0 36 d_re_readsPlaceAndCount_36 ?_
    refine gw_get 37 15 3 d_re_readsPlaceAndCount_37 lk_re_9 (W.1.2 15 (by decide) (by decide)) rfl (.long (lN (by_w B i p 4))) (gsG_eq S 15 3 _) ?_
    refine ev_bipush (16) 40 d_re_readsPlaceAndCount_40 (by decide) ?_
    refine ev_lushr 42 d_re_readsPlaceAndCount_42 ?_
    refine ev_l2i 43 d_re_readsPlaceAndCount_43 ?_
    refine ev_topi (nI (by_w B i p 4 / 65536)) (by_h16 (Nat.lt_trans (by_lt h8 W.2.2.2.2.2 4 hr) (by decide))) ?_
    refine gw_ist (j := it) 44 13 d_re_readsPlaceAndCount_44 W.1.1 (W.1.2 13 (by decide) (by decide)) rfl (by rw [W.2.1.2.2]; exact hit) (by rw [W.2.1.2.2]; decide) ?_
    refine ev_iconst_1 45 d_re_readsPlaceAndCount_45 ?_
    refine ev_zret 46 d_re_readsPlaceAndCount_46 rfl ?_ ?_
    · rfl
    exact ⟨_, _, rfl, rfl, Or.inr ⟨hr, rfl, rfl⟩⟩
  · obtain ⟨q, v, hr, e9⟩ : ∃ q v, mo_rg p 4 = some q ∧ S1 = sp_S (gsG S 15 3 v) 1 q := by
      rcases hb with ⟨q, v, h1, h2, h3⟩ | ⟨h1, h2, h3⟩
      · exact ⟨q, v, h1, h3⟩
      · exact absurd (h2.symm.trans c6) (by decide)
    subst e9
    refine ev_iconst_0 9 d_re_readsPlaceAndCount_9 ?_
    refine ev_zret 10 d_re_readsPlaceAndCount_10 rfl ?_ ?_
    · rfl
    exact ⟨_, _, rfl, rfl, Or.inl ⟨q, v, hr, rfl, rfl⟩⟩
