set_option maxHeartbeats 8000000 in
set_option maxRecDepth 100000 in
theorem ht_re_readsItem {l : Launch} {D : va_G} {tl : List (ClassId × FieldType)} {Z : (Nat → Prop) → State → Heap → Prop} {K : List Nat} {am : Nat → Nat} {ks : Nat → ClassId} {N : Nat → Nat} {B0 : Nat → Nat → Int32} {i NT ni : Nat} {ct dp : Nat → Nat} {pt : Nat → Nat → Nat} {sz : Nat → Nat} {R : Nat → Nat → Prop} (hd : Nat → Nat) (hZ : ev_Zok Z) (hNw : hc_ZN Z) (hZ9 : ho_Z Z hd) (hDi : ho_D hd) (C : RC B0 i NT ni ct dp pt sz R) : ∀ (d tt uu : Nat) (p ab inn : Int32) (n : Nat) (B : Nat → Nat → Int32) (S : gS), dp tt ≤ d → R tt uu → RS K am N hd S B0 B i NT ni ct pt n → MT (hc_π l D ks tl Z) (m_re_readsItem (4 + 2 * d) 0 0) 0 0 [.ref (am 15), .ref (am (100 + 3 * tt)), .ref (am (100 + 3 * uu)), .int p] (gw K am ks N S) (RQ K am N hd ks S B0 B i NT ni ct pt n (rd_i (B0 4) ct i d tt uu p ab inn n B)) := by
  obtain ⟨⟨hin, hn6⟩, h8, hW, hD, hF, hRN, hS, hSS⟩ := C
  intro d
  induction d with
  | zero =>
    intro tt uu p ab inn n B S h1 h2
    exact absurd (hW.2.1 tt (hRN tt uu h2).1).2.2.1 (by omega)
  | succ d ihd =>
    intro tt uu p ab inn n B S hdp hR R1
    obtain ⟨ht, hu⟩ := hRN tt uu hR
    obtain ⟨hal, hparts⟩ := hF tt uu hR
    obtain ⟨W, hT, hM, hsc, hcn, hn2, hI, hA⟩ := R1
    have R1 : RS K am N hd S B0 B i NT ni ct pt n := ⟨W, hT, hM, hsc, hcn, hn2, hI, hA⟩
    have hi := W.2.2.2.2.2
    obtain ⟨e7t, ct6, -, -⟩ := hW.2.1 tt ht
    obtain ⟨e7u, cu6, -, -⟩ := hW.2.1 uu hu
    have e2 : B 2 = B0 2 := hsc 2 (by decide) (by decide) (by decide) (by decide)
    have e3 : B 3 = B0 3 := hsc 3 (by decide) (by decide) (by decide) (by decide)
    have e4 : B 4 = B0 4 := hsc 4 (by decide) (by decide) (by decide) (by decide)
    have e5 : B 5 = B0 5 := hsc 5 (by decide) (by decide) (by decide) (by decide)
    have e7 : B 7 = B0 7 := hsc 7 (by decide) (by decide) (by decide) (by decide)
    have e13 : B 13 = B0 13 := hsc 13 (by decide) (by decide) (by decide) (by decide)
    obtain ⟨hst, hs96, hs1, al, hal4, e5t⟩ := hS tt ht
    refine mt_of pl_re rfl (Nat.le_of_ble_eq_true rfl) (ev_eq (lv' := [some (.ref (am 15)), some (.ref (am (100 + 3 * tt))), some (.ref (am (100 + 3 * uu))), some (.int p), none]) ?_)
    refine ev_aload_0 0 d_re_readsItem_0 ?_
    refine gw_get 1 15 1 d_re_readsItem_1 lk_re_19 (W.1.2 15 (by decide) (by decide)) rfl (.ref (am 10)) W.2.2.1.2.1 ?_
    refine gw_get 4 10 3 d_re_readsItem_4 lk_re_27 (W.1.2 10 (by decide) (by decide)) rfl (.int (nI n)) hcn ?_
    refine ev_sipush (200) 7 d_re_readsItem_7 (by decide) ?_
    refine ev_icmplt 10 24 d_re_readsItem_10 (fun c10 => ?_) (fun c10 => ?_)
    · have h10 := n_lt n 200 c10
      have hn200 : ¬ n = 200 := by omega
      refine ev_iload_3 24 d_re_readsItem_24 ?_
      refine ev_aload_1 25 d_re_readsItem_25 ?_
      refine gw_get 26 (100 + 3 * tt) 7 d_re_readsItem_26 lk_re_39 (hT.k0 ht) (hT.g0 ht) (.int (nI al)) ((hT.f7 ht).trans (by rw [e5t])) ?_
      refine ev_iconst_1 29 d_re_readsItem_29 ?_
      refine ev_isub 30 d_re_readsItem_30 ?_
      refine ev_iand 31 d_re_readsItem_31 ?_
      refine ev_ifeq 32 45 d_re_readsItem_32 (fun c32 => ?_) (fun c32 => ?_)
      · have h2 : p - p / B 5 tt * B 5 tt = 0 := by rw [e5, e5t]; exact (ar_al p hal4).mp c32
        refine ev_aload_0 45 d_re_readsItem_45 ?_
        refine gw_get 46 15 1 d_re_readsItem_46 lk_re_19 (W.1.2 15 (by decide) (by decide)) rfl (.ref (am 10)) W.2.2.1.2.1 ?_
        refine gw_get 49 10 3 d_re_readsItem_49 lk_re_27 (W.1.2 10 (by decide) (by decide)) rfl (.int (nI n)) hcn ?_
        refine ev_istore_4 52 d_re_readsItem_52 ?_ (hn := by exact Nat.le_of_ble_eq_true rfl)
        refine ev_aload_0 54 d_re_readsItem_54 ?_
        refine gw_get 55 15 1 d_re_readsItem_55 lk_re_19 (W.1.2 15 (by decide) (by decide)) rfl (.ref (am 10)) W.2.2.1.2.1 ?_
        refine ev_dup_a 58 d_re_readsItem_58 ?_
        refine gw_get 59 10 3 d_re_readsItem_59 lk_re_27 (W.1.2 10 (by decide) (by decide)) rfl (.int (nI n)) hcn ?_
        refine ev_iconst_1 62 d_re_readsItem_62 ?_
        refine ev_iadd 63 d_re_readsItem_63 ?_
        refine ev_topi (nI (n + 1)) (nI_1 n) ?_
        refine gw_put 64 10 3 d_re_readsItem_64 lp_re_27 W.1.1 (W.1.2 10 (by decide) (by decide)) rfl (vp_nar_int _) rfl ?_
        refine ev_aload_0 67 d_re_readsItem_67 ?_
        refine gw_get 68 15 1 d_re_readsItem_68 lk_re_19 (W.1.2 15 (by decide) (by decide)) rfl (.ref (am 10)) ((gsG_nj (Or.inl (by decide))).trans W.2.2.1.2.1) ?_
        refine gw_get 71 10 0 d_re_readsItem_71 lk_re_44 (W.1.2 10 (by decide) (by decide)) rfl (.ref (am 11)) ((gsG_nj (Or.inr (by decide))).trans W.2.2.2.1.1) ?_
        refine ev_iload_4 74 d_re_readsItem_74 ?_
        refine ev_iload_3 76 d_re_readsItem_76 ?_
        refine gw_ist (j := n) 77 11 d_re_readsItem_77 W.1.1 (W.1.2 11 (by decide) (by decide)) rfl (by rw [W.2.1.1]; omega) (by rw [W.2.1.1]; decide) ?_
        have k1 : rkp S (gsA (gsG S 10 3 (.int (nI (n + 1)))) 11 n p) := ((rkp.rf S).g (Or.inr (Or.inl ⟨rfl, rfl⟩))).a (Or.inl rfl)
        have W1 := W.rk k1
        have hT1 := hT.rk k1
        have hM1 := hM.rk k1
        have hA1 : HA am hd (gsA (gsG S 10 3 (.int (nI (n + 1)))) 11 n p) B fr0 (lnB B) ni := hA.s hn6 (fun k j hg => gsG_nj (S := S) (k := 10) (j := 3) (k' := k) (j' := j) (v := .int (nI (n + 1))) (Or.inl (fun z => by rw [z] at hg; exact absurd hg (by decide))))
        have hc10 : (gsA (gsG S 10 3 (.int (nI (n + 1)))) 11 n p).1 10 3 = .int (nI (n + 1)) := gsG_eq S 10 3 _
        have h14 : (gsA (gsG S 10 3 (.int (nI (n + 1)))) 11 n p).1 14 = S.1 14 := funext (fun j => gsG_nj (S := S) (k := 10) (j := 3) (k' := 14) (j' := j) (v := .int (nI (n + 1))) (Or.inl (by decide)))
        have hea : ∀ k, k < n → (gsA (gsG S 10 3 (.int (nI (n + 1)))) 11 n p).2.1 11 k = S.2.1 11 k ∧ (gsA (gsG S 10 3 (.int (nI (n + 1)))) 11 n p).2.1 13 k = S.2.1 13 k ∧ (gsA (gsG S 10 3 (.int (nI (n + 1)))) 11 n p).2.2.2 12 k = S.2.2.2 12 k := fun k hk => ⟨gsA_nj (gsG S 10 3 (.int (nI (n + 1)))) 11 n p (Or.inr (by omega)), gsA_nj (gsG S 10 3 (.int (nI (n + 1)))) 11 n p (Or.inl (by decide)), rfl⟩
        have hp11 : (gsA (gsG S 10 3 (.int (nI (n + 1)))) 11 n p).2.1 11 n = p := gsA_eq (gsG S 10 3 (.int (nI (n + 1)))) 11 n p
        refine ev_aload_1 78 d_re_readsItem_78 ?_
        refine gw_get 79 (100 + 3 * tt) 0 d_re_readsItem_79 lk_re_48 (hT.k0 ht) (hT.g0 ht) (.int (B0 2 tt)) (hT1.f0 ht) ?_
        rcases sw_tab (B0 2 tt) 6 7 (by decide) with ⟨j82, hj82, e82⟩ | e82
        · obtain h82 | h82 | h82 | h82 | h82 | h82 | h82 : j82 = 0 ∨ j82 = 1 ∨ j82 = 2 ∨ j82 = 3 ∨ j82 = 4 ∨ j82 = 5 ∨ j82 = 6 := by omega
          · subst h82
            replace e82 : B0 2 tt = 6 := e82
            refine ev_topi 6 e82 ?_
            refine ev_tabIn 82 124 d_re_readsItem_82 (by decide) (by decide) rfl ?_
            refine ev_aload_0 124 d_re_readsItem_124 ?_
            refine ev_iload_4 125 d_re_readsItem_125 ?_
            refine ev_iload_3 127 d_re_readsItem_127 ?_
            refine gw_callV 128 15 [.int (nI n), .int p] [] d_re_readsItem_128 hZ (kc_re_51 (k9 := 3) (mc9 := 0) (ms9 := 0)) (hr_of (by omega) (by decide) (by decide) (by decide)) (W.1.2 15 (by decide) (by decide)) rfl rfl (ht_re_readsPlaceAndCount n p hZ hNw W1 hM1 h8 (by omega) (by decide)) (fun r9 w9 hw => ?_)
            obtain ⟨y, S9, x1, x2, hb⟩ := hw
            subst x1
            subst x2
            refine ev_eq (st' := [.int y]) ?_
            refine ev_ifeq 131 147 d_re_readsItem_131 (fun c131 => ?_) (fun c131 => ?_)
            · obtain ⟨q, v, hr, e9⟩ : ∃ q v, mo_rg p 4 = some q ∧ S9 = sp_S (gsG (gsA (gsG S 10 3 (.int (nI (n + 1)))) 11 n p) 15 3 v) 1 q := by
                rcases hb with ⟨q, v, h1, h2, h3⟩ | ⟨h1, h2, h3⟩
                · exact ⟨q, v, h1, h3⟩
                · exact absurd (h2.symm.trans c131) (by decide)
              subst e9
              refine ev_iconst_0 147 d_re_readsItem_147 ?_
              refine ev_zret 148 d_re_readsItem_148 rfl ?_ ?_
              · first | rfl | exact rq_n hb | exact rq_n hb.2 | (rcases hb with ⟨_, _, _, _, rfl, _⟩ | ⟨_, rfl, _⟩ <;> rfl) | (rcases hb.2 with ⟨_, _, rfl, _⟩ | ⟨_, rfl, _⟩ <;> rfl)
              exact ⟨_, _, rfl, rfl, Or.inl ⟨(1, q), rd_l (ri_6a hn200 h2 (by rw [e2]; exact e82) (by rw [rg_4]; exact hr)), rfl, k1.by.sp, sp_0 _ _ _, sp_1 _ _ _, B, hsc, (hA1.by hn6).sp hn6⟩⟩
            · obtain ⟨hr, e9⟩ : mo_rg p 4 = none ∧ S9 = gsA (gsL (gsG (gsA (gsG S 10 3 (.int (nI (n + 1)))) 11 n p) 15 3 (.long (lN (by_w B0 i p 4)))) 12 n (lN (by_w B0 i p 4 % 65536))) 13 n (nI (by_w B0 i p 4 / 65536)) := by
                rcases hb with ⟨q, v, h1, h2, h3⟩ | ⟨h1, h2, h3⟩
                · exact absurd h2 c131
                · exact ⟨h1, h3⟩
              obtain ⟨q1, q2, q3, q4⟩ := by_4 h8 hi hr
              rw [q1, q2] at e9
              subst e9
              have hr2 : mo_rg p 2 = none := mo_rg_le 2 hr
              have nb1 : mo_nb (B 13) i p 2 = nI (by_w B0 i p 2) := by rw [e13]; exact by_nb h8 hi 2 (by omega) hr2
              have nb2 : mo_nb (B 13) i (p + 2) 2 = nI (by_w B0 i (p + 2) 2) := by rw [e13]; exact by_nb h8 hi 2 (by omega) ((rg_2 hr2 2).symm.trans hr)
              have k9 : rkp S (gsA (gsL (gsG (gsA (gsG S 10 3 (.int (nI (n + 1)))) 11 n p) 15 3 (.long (lN (by_w B0 i p 4)))) 12 n (lN (by_w B0 i p 2))) 13 n (nI (by_w B0 i (p + 2) 2))) := k1.by.l.a (Or.inr rfl)
              have h149 : (gsA (gsL (gsG (gsA (gsG S 10 3 (.int (nI (n + 1)))) 11 n p) 15 3 (.long (lN (by_w B0 i p 4)))) 12 n (lN (by_w B0 i p 2))) 13 n (nI (by_w B0 i (p + 2) 2))).1 14 = S.1 14 := (funext (fun j => gsG_nj (S := (gsA (gsG S 10 3 (.int (nI (n + 1)))) 11 n p)) (k := 15) (j := 3) (k' := 14) (j' := j) (v := .long (lN (by_w B0 i p 4))) (Or.inl (by decide)))).trans h14
              have hea9 : ∀ k, k < n → (gsA (gsL (gsG (gsA (gsG S 10 3 (.int (nI (n + 1)))) 11 n p) 15 3 (.long (lN (by_w B0 i p 4)))) 12 n (lN (by_w B0 i p 2))) 13 n (nI (by_w B0 i (p + 2) 2))).2.1 11 k = S.2.1 11 k ∧ (gsA (gsL (gsG (gsA (gsG S 10 3 (.int (nI (n + 1)))) 11 n p) 15 3 (.long (lN (by_w B0 i p 4)))) 12 n (lN (by_w B0 i p 2))) 13 n (nI (by_w B0 i (p + 2) 2))).2.1 13 k = S.2.1 13 k ∧ (gsA (gsL (gsG (gsA (gsG S 10 3 (.int (nI (n + 1)))) 11 n p) 15 3 (.long (lN (by_w B0 i p 4)))) 12 n (lN (by_w B0 i p 2))) 13 n (nI (by_w B0 i (p + 2) 2))).2.2.2 12 k = S.2.2.2 12 k := fun k hk => ⟨(gsA_nj (gsL (gsG (gsA (gsG S 10 3 (.int (nI (n + 1)))) 11 n p) 15 3 (.long (lN (by_w B0 i p 4)))) 12 n (lN (by_w B0 i p 2))) 13 n _ (Or.inl (by decide))).trans (hea k hk).1, (gsA_nj (gsL (gsG (gsA (gsG S 10 3 (.int (nI (n + 1)))) 11 n p) 15 3 (.long (lN (by_w B0 i p 4)))) 12 n (lN (by_w B0 i p 2))) 13 n _ (Or.inr (by omega))).trans (hea k hk).2.1, gsL_nj (gsG (gsA (gsG S 10 3 (.int (nI (n + 1)))) 11 n p) 15 3 (.long (lN (by_w B0 i p 4)))) 12 n _ (Or.inr (by omega))⟩
              have hA9 : HA am hd (gsA (gsL (gsG (gsA (gsG S 10 3 (.int (nI (n + 1)))) 11 n p) 15 3 (.long (lN (by_w B0 i p 4)))) 12 n (lN (by_w B0 i p 2))) 13 n (nI (by_w B0 i (p + 2) 2))) (ri_B1 B i n uu p ab inn) fr0 (lnB (ri_B1 B i n uu p ab inn)) ni := HA.b (hA1.by hn6) (fun f hf => rB1_k (by omega))
              have st9 : st_k S B n (gsA (gsL (gsG (gsA (gsG S 10 3 (.int (nI (n + 1)))) 11 n p) 15 3 (.long (lN (by_w B0 i p 4)))) 12 n (lN (by_w B0 i p 2))) 13 n (nI (by_w B0 i (p + 2) 2))) (ri_B1 B i n uu p ab inn) (n + 1) := ⟨k9, h149, rB1_kp, by omega, hea9⟩
              have RS9 : RS K am N hd (gsA (gsL (gsG (gsA (gsG S 10 3 (.int (nI (n + 1)))) 11 n p) 15 3 (.long (lN (by_w B0 i p 4)))) 12 n (lN (by_w B0 i p 2))) 13 n (nI (by_w B0 i (p + 2) 2))) B0 (ri_B1 B i n uu p ab inn) i NT ni ct pt (n + 1) := R1.nx (by omega) k9 ((gsG_nj (S := (gsA (gsG S 10 3 (.int (nI (n + 1)))) 11 n p)) (k := 15) (j := 3) (k' := 10) (j' := 3) (v := .long (lN (by_w B0 i p 4))) (Or.inl (by decide))).trans hc10) hea9 rB1_sc rB1_kp hu rB1_44 (IR_68 (by rw [rB1_k (by omega), e2, ← hal.1]; exact Or.inl e82) (by rw [rB1_45]; exact (gsA_nj (gsL (gsG (gsA (gsG S 10 3 (.int (nI (n + 1)))) 11 n p) 15 3 (.long (lN (by_w B0 i p 4)))) 12 n (lN (by_w B0 i p 2))) 13 n _ (Or.inl (by decide))).trans hp11) (by omega) (by omega) (by rw [rB1_48, nb1]) (by rw [rB1_49, nb2]) (gsL_eq (gsG (gsA (gsG S 10 3 (.int (nI (n + 1)))) 11 n p) 15 3 (.long (lN (by_w B0 i p 4)))) 12 n _) (gsA_eq (gsL (gsG (gsA (gsG S 10 3 (.int (nI (n + 1)))) 11 n p) 15 3 (.long (lN (by_w B0 i p 4)))) 12 n (lN (by_w B0 i p 2))) 13 n _)) hA9
              refine ev_aload_0 134 d_re_readsItem_134 ?_
              refine ev_iload_4 135 d_re_readsItem_135 ?_
              refine gw_callV 137 15 [.int (nI n)] [] d_re_readsItem_137 hZ (kc_re_54 (k9 := 3) (mc9 := 0) (ms9 := 0)) (hr_of (by omega) (by decide) (by decide) (by decide)) (W.1.2 15 (by decide) (by decide)) rfl rfl (ht_re_readsText n hZ hNw (W.rk k9) (hM.rk k9) h8 (by omega) (gsL_eq (gsG (gsA (gsG S 10 3 (.int (nI (n + 1)))) 11 n p) 15 3 (.long (lN (by_w B0 i p 4)))) 12 n _) (gsA_eq (gsL (gsG (gsA (gsG S 10 3 (.int (nI (n + 1)))) 11 n p) 15 3 (.long (lN (by_w B0 i p 4)))) 12 n (lN (by_w B0 i p 2))) 13 n _) (by omega) (by omega) (by decide)) (fun r9 w9 hw => ?_)
              obtain ⟨y2, S10, x1, x2, hb2⟩ := hw
              subst x1
              subst x2
              refine ev_eq (st' := [.int y2]) ?_
              refine ev_ifeq 140 147 d_re_readsItem_140 (fun c140 => ?_) (fun c140 => ?_)
              · refine ev_iconst_0 147 d_re_readsItem_147 ?_
                refine ev_zret 148 d_re_readsItem_148 rfl ?_ ?_
                · first | rfl | exact rq_n hb | exact rq_n hb.2 | (rcases hb with ⟨_, _, _, _, rfl, _⟩ | ⟨_, rfl, _⟩ <;> rfl) | (rcases hb.2 with ⟨_, _, rfl, _⟩ | ⟨_, rfl, _⟩ <;> rfl)
                obtain ⟨c, q, h7, e9⟩ : ∃ c q, tx_r (B0 13) i (by_w B0 i p 2) (by_w B0 i (p + 2) 2) ((by_w B0 i (p + 2) 2) + 1) 0 = some (c, q) ∧ S10 = sp_S (gsA (gsL (gsG (gsA (gsG S 10 3 (.int (nI (n + 1)))) 11 n p) 15 3 (.long (lN (by_w B0 i p 4)))) 12 n (lN (by_w B0 i p 2))) 13 n (nI (by_w B0 i (p + 2) 2))) c q := by
                  rcases hb2 with ⟨c, q, h1, h2, h3⟩ | ⟨h1, h2, h3⟩
                  · exact ⟨c, q, h1, h3⟩
                  · exact absurd (h2.symm.trans c140) (by decide)
                subst e9
                exact ⟨_, _, rfl, rfl, Or.inl ⟨(c, q), rd_l (ri_6b hn200 h2 (by rw [e2]; exact e82) (by rw [rg_4]; exact hr) (by rw [nb1, nb2, nI_clamp (by omega), nI_clamp (by omega), e13]; exact h7)), rfl, k9.sp, sp_0 _ _ _, sp_1 _ _ _, (ri_B1 B i n uu p ab inn), (hsc.tr rB1_sc), hA9.sp hn6⟩⟩
              · refine ev_iconst_1 143 d_re_readsItem_143 ?_
                refine ev_goto 144 148 d_re_readsItem_144 ?_
                refine ev_zret 148 d_re_readsItem_148 rfl ?_ ?_
                · first | rfl | exact rq_n hb | exact rq_n hb.2 | (rcases hb with ⟨_, _, _, _, rfl, _⟩ | ⟨_, rfl, _⟩ <;> rfl) | (rcases hb.2 with ⟨_, _, rfl, _⟩ | ⟨_, rfl, _⟩ <;> rfl)
                obtain ⟨h7, e9⟩ : tx_r (B0 13) i (by_w B0 i p 2) (by_w B0 i (p + 2) 2) ((by_w B0 i (p + 2) 2) + 1) 0 = none ∧ S10 = (gsA (gsL (gsG (gsA (gsG S 10 3 (.int (nI (n + 1)))) 11 n p) 15 3 (.long (lN (by_w B0 i p 4)))) 12 n (lN (by_w B0 i p 2))) 13 n (nI (by_w B0 i (p + 2) 2))) := by
                  rcases hb2 with ⟨c, q, h1, h2, h3⟩ | ⟨h1, h2, h3⟩
                  · exact absurd h2 c140
                  · exact ⟨h1, h3⟩
                subst e9
                exact ⟨_, _, rfl, rfl, Or.inr ⟨(n + 1, (ri_B1 B i n uu p ab inn)), rd_0 (ri_6c hn200 h2 (by rw [e2]; exact e82) (by rw [rg_4]; exact hr) (by rw [nb1, nb2, nI_clamp (by omega), nI_clamp (by omega), e13]; exact h7)), rfl, st9, RS9⟩⟩
          · subst h82
            replace e82 : B0 2 tt = 7 := e82
            refine ev_topi 7 e82 ?_
            refine ev_tabIn 82 213 d_re_readsItem_82 (by decide) (by decide) rfl ?_
            have kle : B0 2 tt ≤ 10 := by rw [e82]; decide
            have k6 : ¬ B0 2 tt = 6 := by rw [e82]; decide
            have k8 : ¬ B0 2 tt = 8 := by rw [e82]; decide
            have k9 : ¬ B0 2 tt = 9 := by rw [e82]; decide
            have k10 : ¬ B0 2 tt = 10 := by rw [e82]; decide
            obtain ⟨sz9, s1, s2, s3, s4⟩ := (hD tt ht).2.2 k6 k8 k9 k10 kle
            have es : sz9 = sz tt := n_eq sz9 (sz tt) (s1.symm.trans hst)
            rw [← es] at hst hs1
            have hsu : sz uu = sz9 := (hSS tt uu ht hu hal.1 k9 k10).symm.trans es.symm
            refine ev_aload_0 213 d_re_readsItem_213 ?_
            refine ev_iload_4 214 d_re_readsItem_214 ?_
            refine ev_aload_1 216 d_re_readsItem_216 ?_
            refine ev_iload_3 217 d_re_readsItem_217 ?_
            refine gw_callV 218 15 [.int (nI n), .ref (am (100 + 3 * tt)), .int p] [] d_re_readsItem_218 hZ (kc_re_78 (k9 := 3) (mc9 := 0) (ms9 := 0)) (hr_of (by omega) (by decide) (by decide) (by decide)) (W.1.2 15 (by decide) (by decide)) rfl rfl (ht_re_readsNumber n tt p hZ hNw W1 hM1 h8 hT1 ht hst s3 hs1 s4 (by omega) (by decide) (by decide)) (fun r9 w9 hw => ?_)
            obtain ⟨y, S9, x1, x2, hb⟩ := hw
            subst x1
            subst x2
            refine ev_eq (st' := [.int y]) ?_
            refine ev_zret 221 d_re_readsItem_221 rfl ?_ ?_
            · first | rfl | exact rq_n hb | exact rq_n hb.2 | (rcases hb with ⟨_, _, _, _, rfl, _⟩ | ⟨_, rfl, _⟩ <;> rfl) | (rcases hb.2 with ⟨_, _, rfl, _⟩ | ⟨_, rfl, _⟩ <;> rfl)
            have ri := ri_0 (ct := ct) (ii := i) (uu := uu) (ab := ab) (inn := inn) hn200 h2 (by rw [e2]; exact k6) (by rw [e2]; exact k8) (by rw [e2]; exact k9) (by rw [e2]; exact k10) (by rw [e2]; exact kle)
            rw [rp_c hsc] at ri
            rcases hb with ⟨c, q, v, h1, h2y, e9⟩ | ⟨h1, h2y, e9⟩
            · subst e9
              rw [h1] at ri
              exact ⟨_, _, rfl, rfl, Or.inl ⟨(c, q), rd_l ri, h2y, k1.by.sp, sp_0 _ _ _, sp_1 _ _ _, B, hsc, (hA1.by hn6).sp hn6⟩⟩
            · subst e9
              rw [h1] at ri
              have hrg : mo_rg p sz9 = none := by
                cases hx : mo_rg p sz9 with
                | none => rfl
                | some q => rw [mo_rp1 hst s3 hx] at h1; cases h1
              have hea9 : ∀ k, k < n → (gsL (gsG (gsA (gsG S 10 3 (.int (nI (n + 1)))) 11 n p) 15 3 (.long (lN (by_w B0 i p sz9)))) 12 n (lN (by_w B0 i p sz9))).2.1 11 k = S.2.1 11 k ∧ (gsL (gsG (gsA (gsG S 10 3 (.int (nI (n + 1)))) 11 n p) 15 3 (.long (lN (by_w B0 i p sz9)))) 12 n (lN (by_w B0 i p sz9))).2.1 13 k = S.2.1 13 k ∧ (gsL (gsG (gsA (gsG S 10 3 (.int (nI (n + 1)))) 11 n p) 15 3 (.long (lN (by_w B0 i p sz9)))) 12 n (lN (by_w B0 i p sz9))).2.2.2 12 k = S.2.2.2 12 k := fun k hk => ⟨(hea k hk).1, (hea k hk).2.1, gsL_nj (gsG (gsA (gsG S 10 3 (.int (nI (n + 1)))) 11 n p) 15 3 (.long (lN (by_w B0 i p sz9)))) 12 n _ (Or.inr (by omega))⟩
              have e4u : ((ri_B0 B n uu p ab inn) 4 uu).toNatClampNeg = sz9 := by rw [rB0_k (by omega), e4, (hS uu hu).1, hsu, nI_clamp (by omega)]
              refine ⟨_, _, rfl, rfl, Or.inr ⟨(n + 1, (ri_B0 B n uu p ab inn)), rd_0 ri, h2y, ⟨k1.by.l, (funext (fun j => gsG_nj (S := (gsA (gsG S 10 3 (.int (nI (n + 1)))) 11 n p)) (k := 15) (j := 3) (k' := 14) (j' := j) (v := .long (lN (by_w B0 i p sz9))) (Or.inl (by decide)))).trans h14, rB0_kp, by omega, hea9⟩, R1.nx (by omega) k1.by.l ((gsG_nj (S := (gsA (gsG S 10 3 (.int (nI (n + 1)))) 11 n p)) (k := 15) (j := 3) (k' := 10) (j' := 3) (v := .long (lN (by_w B0 i p sz9))) (Or.inl (by decide))).trans hc10) hea9 (ri_B0_sc B n uu p ab inn) rB0_kp hu (rB0_44 (p := p) (ab := ab) (inn := inn)) (IR_p ?_ ?_ ?_ ?_ ?_ ?_ ?_) (HA.by (S := (gsA (gsG S 10 3 (.int (nI (n + 1)))) 11 n p)) (HA.b hA1 (fun f hf => rB0_k (by omega))) hn6)⟩⟩
              · try dsimp only
                rw [rB0_k (by omega), e2, ← hal.1]; exact k6
              · try dsimp only
                rw [rB0_k (by omega), e2, ← hal.1]; exact k8
              · try dsimp only
                rw [rB0_k (by omega), e2, ← hal.1]; exact k10
              · try dsimp only
                rw [rB0_k (by omega), e2, ← hal.1]; exact kle
              · try dsimp only
                rw [rB0_45]; exact hp11
              · try dsimp only
                rw [rB0_45, e4u]; exact hrg
              · try dsimp only
                rw [rB0_45, e4u, by_w_c (B := B0) (B' := (ri_B0 B n uu p ab inn)) (by rw [rB0_k (by omega), e13])]; exact gsL_eq (gsG (gsA (gsG S 10 3 (.int (nI (n + 1)))) 11 n p) 15 3 (.long (lN (by_w B0 i p sz9)))) 12 n _
          · subst h82
            replace e82 : B0 2 tt = 8 := e82
            refine ev_topi 8 e82 ?_
            refine ev_tabIn 82 149 d_re_readsItem_82 (by decide) (by decide) rfl ?_
            refine ev_aload_0 149 d_re_readsItem_149 ?_
            refine ev_iload_4 150 d_re_readsItem_150 ?_
            refine ev_iload_3 152 d_re_readsItem_152 ?_
            refine gw_callV 153 15 [.int (nI n), .int p] [] d_re_readsItem_153 hZ (kc_re_51 (k9 := 3) (mc9 := 0) (ms9 := 0)) (hr_of (by omega) (by decide) (by decide) (by decide)) (W.1.2 15 (by decide) (by decide)) rfl rfl (ht_re_readsPlaceAndCount n p hZ hNw W1 hM1 h8 (by omega) (by decide)) (fun r9 w9 hw => ?_)
            obtain ⟨y, S9, x1, x2, hb⟩ := hw
            subst x1
            subst x2
            refine ev_eq (st' := [.int y]) ?_
            refine ev_ifeq 156 184 d_re_readsItem_156 (fun c156 => ?_) (fun c156 => ?_)
            · obtain ⟨q, v, hr, e9⟩ : ∃ q v, mo_rg p 4 = some q ∧ S9 = sp_S (gsG (gsA (gsG S 10 3 (.int (nI (n + 1)))) 11 n p) 15 3 v) 1 q := by
                rcases hb with ⟨q, v, h1, h2, h3⟩ | ⟨h1, h2, h3⟩
                · exact ⟨q, v, h1, h3⟩
                · exact absurd (h2.symm.trans c156) (by decide)
              subst e9
              refine ev_iconst_0 184 d_re_readsItem_184 ?_
              refine ev_zret 185 d_re_readsItem_185 rfl ?_ ?_
              · first | rfl | exact rq_n hb | exact rq_n hb.2 | (rcases hb with ⟨_, _, _, _, rfl, _⟩ | ⟨_, rfl, _⟩ <;> rfl) | (rcases hb.2 with ⟨_, _, rfl, _⟩ | ⟨_, rfl, _⟩ <;> rfl)
              exact ⟨_, _, rfl, rfl, Or.inl ⟨(1, q), rd_l (ri_8a hn200 h2 (by rw [e2]; exact e82) (by rw [rg_4]; exact hr)), rfl, k1.by.sp, sp_0 _ _ _, sp_1 _ _ _, B, hsc, (hA1.by hn6).sp hn6⟩⟩
            · have hc1 := (hD tt ht).2.1 e82
              have hc2 := (hD uu hu).2.1 (hal.1.symm.trans e82)
              obtain ⟨hr, e9⟩ : mo_rg p 4 = none ∧ S9 = gsA (gsL (gsG (gsA (gsG S 10 3 (.int (nI (n + 1)))) 11 n p) 15 3 (.long (lN (by_w B0 i p 4)))) 12 n (lN (by_w B0 i p 4 % 65536))) 13 n (nI (by_w B0 i p 4 / 65536)) := by
                rcases hb with ⟨q, v, h1, h2, h3⟩ | ⟨h1, h2, h3⟩
                · exact absurd h2 c156
                · exact ⟨h1, h3⟩
              obtain ⟨q1, q2, q3, q4⟩ := by_4 h8 hi hr
              rw [q1, q2] at e9
              subst e9
              have hr2 : mo_rg p 2 = none := mo_rg_le 2 hr
              have nb1 : mo_nb (B 13) i p 2 = nI (by_w B0 i p 2) := by rw [e13]; exact by_nb h8 hi 2 (by omega) hr2
              have nb2 : mo_nb (B 13) i (p + 2) 2 = nI (by_w B0 i (p + 2) 2) := by rw [e13]; exact by_nb h8 hi 2 (by omega) ((rg_2 hr2 2).symm.trans hr)
              have k9 : rkp S (gsA (gsL (gsG (gsA (gsG S 10 3 (.int (nI (n + 1)))) 11 n p) 15 3 (.long (lN (by_w B0 i p 4)))) 12 n (lN (by_w B0 i p 2))) 13 n (nI (by_w B0 i (p + 2) 2))) := k1.by.l.a (Or.inr rfl)
              have h149 : (gsA (gsL (gsG (gsA (gsG S 10 3 (.int (nI (n + 1)))) 11 n p) 15 3 (.long (lN (by_w B0 i p 4)))) 12 n (lN (by_w B0 i p 2))) 13 n (nI (by_w B0 i (p + 2) 2))).1 14 = S.1 14 := (funext (fun j => gsG_nj (S := (gsA (gsG S 10 3 (.int (nI (n + 1)))) 11 n p)) (k := 15) (j := 3) (k' := 14) (j' := j) (v := .long (lN (by_w B0 i p 4))) (Or.inl (by decide)))).trans h14
              have hea9 : ∀ k, k < n → (gsA (gsL (gsG (gsA (gsG S 10 3 (.int (nI (n + 1)))) 11 n p) 15 3 (.long (lN (by_w B0 i p 4)))) 12 n (lN (by_w B0 i p 2))) 13 n (nI (by_w B0 i (p + 2) 2))).2.1 11 k = S.2.1 11 k ∧ (gsA (gsL (gsG (gsA (gsG S 10 3 (.int (nI (n + 1)))) 11 n p) 15 3 (.long (lN (by_w B0 i p 4)))) 12 n (lN (by_w B0 i p 2))) 13 n (nI (by_w B0 i (p + 2) 2))).2.1 13 k = S.2.1 13 k ∧ (gsA (gsL (gsG (gsA (gsG S 10 3 (.int (nI (n + 1)))) 11 n p) 15 3 (.long (lN (by_w B0 i p 4)))) 12 n (lN (by_w B0 i p 2))) 13 n (nI (by_w B0 i (p + 2) 2))).2.2.2 12 k = S.2.2.2 12 k := fun k hk => ⟨(gsA_nj (gsL (gsG (gsA (gsG S 10 3 (.int (nI (n + 1)))) 11 n p) 15 3 (.long (lN (by_w B0 i p 4)))) 12 n (lN (by_w B0 i p 2))) 13 n _ (Or.inl (by decide))).trans (hea k hk).1, (gsA_nj (gsL (gsG (gsA (gsG S 10 3 (.int (nI (n + 1)))) 11 n p) 15 3 (.long (lN (by_w B0 i p 4)))) 12 n (lN (by_w B0 i p 2))) 13 n _ (Or.inr (by omega))).trans (hea k hk).2.1, gsL_nj (gsG (gsA (gsG S 10 3 (.int (nI (n + 1)))) 11 n p) 15 3 (.long (lN (by_w B0 i p 4)))) 12 n _ (Or.inr (by omega))⟩
              have hA9 : HA am hd (gsA (gsL (gsG (gsA (gsG S 10 3 (.int (nI (n + 1)))) 11 n p) 15 3 (.long (lN (by_w B0 i p 4)))) 12 n (lN (by_w B0 i p 2))) 13 n (nI (by_w B0 i (p + 2) 2))) (ri_B1 B i n uu p ab inn) fr0 (lnB (ri_B1 B i n uu p ab inn)) ni := HA.b (hA1.by hn6) (fun f hf => rB1_k (by omega))
              have st9 : st_k S B n (gsA (gsL (gsG (gsA (gsG S 10 3 (.int (nI (n + 1)))) 11 n p) 15 3 (.long (lN (by_w B0 i p 4)))) 12 n (lN (by_w B0 i p 2))) 13 n (nI (by_w B0 i (p + 2) 2))) (ri_B1 B i n uu p ab inn) (n + 1) := ⟨k9, h149, rB1_kp, by omega, hea9⟩
              have RS9 : RS K am N hd (gsA (gsL (gsG (gsA (gsG S 10 3 (.int (nI (n + 1)))) 11 n p) 15 3 (.long (lN (by_w B0 i p 4)))) 12 n (lN (by_w B0 i p 2))) 13 n (nI (by_w B0 i (p + 2) 2))) B0 (ri_B1 B i n uu p ab inn) i NT ni ct pt (n + 1) := R1.nx (by omega) k9 ((gsG_nj (S := (gsA (gsG S 10 3 (.int (nI (n + 1)))) 11 n p)) (k := 15) (j := 3) (k' := 10) (j' := 3) (v := .long (lN (by_w B0 i p 4))) (Or.inl (by decide))).trans hc10) hea9 rB1_sc rB1_kp hu rB1_44 (IR_68 (by rw [rB1_k (by omega), e2, ← hal.1]; exact Or.inr e82) (by rw [rB1_45]; exact (gsA_nj (gsL (gsG (gsA (gsG S 10 3 (.int (nI (n + 1)))) 11 n p) 15 3 (.long (lN (by_w B0 i p 4)))) 12 n (lN (by_w B0 i p 2))) 13 n _ (Or.inl (by decide))).trans hp11) (by omega) (by omega) (by rw [rB1_48, nb1]) (by rw [rB1_49, nb2]) (gsL_eq (gsG (gsA (gsG S 10 3 (.int (nI (n + 1)))) 11 n p) 15 3 (.long (lN (by_w B0 i p 4)))) 12 n _) (gsA_eq (gsL (gsG (gsA (gsG S 10 3 (.int (nI (n + 1)))) 11 n p) 15 3 (.long (lN (by_w B0 i p 4)))) 12 n (lN (by_w B0 i p 2))) 13 n _)) hA9
              refine ev_aload_0 159 d_re_readsItem_159 ?_
              obtain ⟨-, hpt, hpd⟩ := hW.2.2 tt 0 ht (by omega)
              have hp0 := hparts 0 (by unfold ty_sh; split <;> omega)
              refine ev_iload_4 160 d_re_readsItem_160 ?_
              refine ev_aload_1 162 d_re_readsItem_162 ?_
              refine gw_get 163 (100 + 3 * tt) 3 d_re_readsItem_163 lk_re_58 (hT.k0 ht) (hT.g0 ht) (.ref (am (101 + 3 * tt))) (RS9.2.1.f3 ht) ?_
              refine ev_iconst_0 166 d_re_readsItem_166 ?_
              refine gw_qld (j := 0) 167 (101 + 3 * tt) d_re_readsItem_167 (hT.k1 ht) (hT.g1 ht) (by rw [hT.n1 ht]; omega) (by rw [hT.n1 ht]; omega) _ (RS9.2.1.pq ht (by omega)) ?_
              refine ev_aload_2 168 d_re_readsItem_168 ?_
              refine gw_get 169 (100 + 3 * uu) 3 d_re_readsItem_169 lk_re_58 (hT.k0 hu) (hT.g0 hu) (.ref (am (101 + 3 * uu))) (RS9.2.1.f3 hu) ?_
              refine ev_iconst_0 172 d_re_readsItem_172 ?_
              refine gw_qld (j := 0) 173 (101 + 3 * uu) d_re_readsItem_173 (hT.k1 hu) (hT.g1 hu) (by rw [hT.n1 hu]; omega) (by rw [hT.n1 hu]; omega) _ (RS9.2.1.pq hu (by omega)) ?_
              refine gw_callV 174 15 [.int (nI n), .ref (am (100 + 3 * pt tt 0)), .ref (am (100 + 3 * pt uu 0))] [] d_re_readsItem_174 hZ (kc_re_62 (k9 := 5 + 2 * d) (mc9 := 0) (ms9 := 0)) (hr_of (by omega) (by decide) (by decide) (by decide)) (W.1.2 15 (by decide) (by decide)) rfl rfl (ht_re_readsList n (pt tt 0) (pt uu 0) hd hZ RS9 hpt (fun p inn n1 B => rd_i (B0 4) ct i d (pt tt 0) (pt uu 0) p (nI n) inn n1 B) (4 + 2 * d) (fun p9 i9 n9 B9 T9 hR9 => ihd (pt tt 0) (pt uu 0) p9 (nI n) i9 n9 B9 T9 (by omega) hp0 hR9) (by_w B0 i p 2) (by_w B0 i (p + 2) 2) (sz (pt tt 0)) (B0 4 (pt uu 0)) (hS _ hpt).1 (Nat.lt_succ_self n) (gsL_eq (gsG (gsA (gsG S 10 3 (.int (nI (n + 1)))) 11 n p) 15 3 (.long (lN (by_w B0 i p 4)))) 12 n _) (gsA_eq (gsL (gsG (gsA (gsG S 10 3 (.int (nI (n + 1)))) 11 n p) 15 3 (.long (lN (by_w B0 i p 4)))) 12 n (lN (by_w B0 i p 2))) 13 n _) (by omega) (by omega) (by omega)) (fun r9 w9 hw => ?_)
              obtain ⟨y2, S10, x1, x2, hb2⟩ := hw
              subst x1
              subst x2
              refine ev_eq (st' := [.int y2]) ?_
              refine ev_ifeq 177 184 d_re_readsItem_177 (fun c177 => ?_) (fun c177 => ?_)
              · refine ev_iconst_0 184 d_re_readsItem_184 ?_
                refine ev_zret 185 d_re_readsItem_185 rfl ?_ ?_
                · first | rfl | exact rq_n hb | exact rq_n hb.2 | (rcases hb with ⟨_, _, _, _, rfl, _⟩ | ⟨_, rfl, _⟩ <;> rfl) | (rcases hb.2 with ⟨_, _, rfl, _⟩ | ⟨_, rfl, _⟩ <;> rfl)
                subst c177
                rw [rd_8 hW hsc hn200 h2 (by rw [e2]; exact e82) (by rw [rg_4]; exact hr) ht hu (by omega) (by omega) (hS _ hpt).1 nb1 nb2 (by omega)]
                exact RQ.tr st9 ⟨0, S10, rfl, rfl, hb2⟩
              · refine ev_iconst_1 180 d_re_readsItem_180 ?_
                refine ev_goto 181 185 d_re_readsItem_181 ?_
                refine ev_zret 185 d_re_readsItem_185 rfl ?_ ?_
                · first | rfl | exact rq_n hb | exact rq_n hb.2 | (rcases hb with ⟨_, _, _, _, rfl, _⟩ | ⟨_, rfl, _⟩ <;> rfl) | (rcases hb.2 with ⟨_, _, rfl, _⟩ | ⟨_, rfl, _⟩ <;> rfl)
                rw [rd_8 hW hsc hn200 h2 (by rw [e2]; exact e82) (by rw [rg_4]; exact hr) ht hu (by omega) (by omega) (hS _ hpt).1 nb1 nb2 (by omega)]
                rcases hb2 with ⟨e, -, ey, -⟩ | ⟨q, hq, -, h3, h4⟩
                · exact absurd ey c177
                · exact RQ.tr st9 ⟨1, S10, rfl, rfl, Or.inr ⟨q, hq, rfl, h3, h4⟩⟩
          · subst h82
            replace e82 : B0 2 tt = 9 := e82
            refine ev_topi 9 e82 ?_
            refine ev_tabIn 82 186 d_re_readsItem_82 (by decide) (by decide) rfl ?_
            have hA0 : HA am hd (gsA (gsG S 10 3 (.int (nI (n + 1)))) 11 n p) (ri_B0 B n uu p ab inn) fr0 (lnB (ri_B0 B n uu p ab inn)) ni := HA.b hA1 (fun f hf => rB0_k (by omega))
            have st1 : st_k S B n (gsA (gsG S 10 3 (.int (nI (n + 1)))) 11 n p) (ri_B0 B n uu p ab inn) (n + 1) := ⟨k1, h14, rB0_kp, by omega, hea⟩
            have hcu : ct uu ≤ ct tt := n_nlt (ct tt) (ct uu) (by have := hal.2.2.2.1 e82; rw [e7t, e7u] at this; exact this)
            have RS1 : RS K am N hd (gsA (gsG S 10 3 (.int (nI (n + 1)))) 11 n p) B0 (ri_B0 B n uu p ab inn) i NT ni ct pt (n + 1) := R1.nx (by omega) k1 hc10 hea (ri_B0_sc B n uu p ab inn) rB0_kp hu rB0_44 (IR_9 (by rw [rB0_k (by omega), e2, ← hal.1]; exact e82) (by rw [rB0_45]; exact hp11)) hA0
            have esh : ty_sh ct tt uu = ct uu := by rw [ty_sh, if_pos hcu]
            refine ev_aload_0 186 d_re_readsItem_186 ?_
            refine ev_aload_1 187 d_re_readsItem_187 ?_
            refine ev_aload_2 188 d_re_readsItem_188 ?_
            refine ev_iload_3 189 d_re_readsItem_189 ?_
            refine gw_callV 190 15 [.ref (am (100 + 3 * tt)), .ref (am (100 + 3 * uu)), .int p] [] d_re_readsItem_190 hZ (kc_re_66 (k9 := 5 + 2 * d) (mc9 := 0) (ms9 := 0)) (hr_of (by omega) (by decide) (by decide) (by decide)) (W.1.2 15 (by decide) (by decide)) rfl rfl (ht_re_readsRecord tt uu p hd hZ RS1 ht hu (fun j n1 B => rd_i (B0 4) ct i d (pt tt j) (pt uu j) (p + B0 9 (6 * tt + j)) (nI n) (B0 9 (6 * uu + j)) n1 B) (4 + 2 * d) (ct uu) e7u cu6 hcu (Nat.le_refl _) ct6 cu6 (fun j hj n9 B9 T9 hR9 => ihd (pt tt j) (pt uu j) _ (nI n) _ n9 B9 T9 (by have := (hW.2.2 tt j ht (by omega)).2.2; omega) (hparts j (by omega)) hR9) (by omega)) (fun r9 w9 hw => ?_)
            obtain ⟨y, S9, x1, x2, hb⟩ := hw
            subst x1
            subst x2
            refine ev_eq (st' := [.int y]) ?_
            refine ev_zret 193 d_re_readsItem_193 rfl ?_ ?_
            · first | rfl | exact rq_n hb | exact rq_n hb.2 | (rcases hb with ⟨_, _, _, _, rfl, _⟩ | ⟨_, rfl, _⟩ <;> rfl) | (rcases hb.2 with ⟨_, _, rfl, _⟩ | ⟨_, rfl, _⟩ <;> rfl)
            rw [rd_9 hW hsc hn200 h2 (by rw [e2]; exact e82) ht hu hcu]
            exact RQ.tr st1 ⟨y, S9, rfl, rfl, hb⟩
          · subst h82
            replace e82 : B0 2 tt = 10 := e82
            refine ev_topi 10 e82 ?_
            refine ev_tabIn 82 194 d_re_readsItem_82 (by decide) (by decide) rfl ?_
            have hA0 : HA am hd (gsA (gsG S 10 3 (.int (nI (n + 1)))) 11 n p) (ri_B0 B n uu p ab inn) fr0 (lnB (ri_B0 B n uu p ab inn)) ni := HA.b hA1 (fun f hf => rB0_k (by omega))
            have st1 : st_k S B n (gsA (gsG S 10 3 (.int (nI (n + 1)))) 11 n p) (ri_B0 B n uu p ab inn) (n + 1) := ⟨k1, h14, rB0_kp, by omega, hea⟩
            have hcu : ct tt ≤ ct uu := n_nlt (ct uu) (ct tt) (by have := hal.2.2.2.2 e82; rw [e7t, e7u] at this; exact this)
            have esh : ty_sh ct tt uu = ct tt := by unfold ty_sh; split <;> omega
            have e2t : B 2 tt = 10 := by rw [e2]; exact e82
            have hX13 : ¬ (p < 0 ∨ 255 < p) → bb B0 i p < 256 ∧ B 13 (256 * nI i + p).toNatClampNeg = nI (bb B0 i p) := fun gp => by rw [e13]; exact bb_p h8 hi gp
            refine ev_aload_0 194 d_re_readsItem_194 ?_
            refine ev_iload_4 195 d_re_readsItem_195 ?_
            refine ev_aload_1 197 d_re_readsItem_197 ?_
            refine ev_aload_2 198 d_re_readsItem_198 ?_
            refine ev_iload_3 199 d_re_readsItem_199 ?_
            refine gw_callV 200 15 [.int (nI n), .ref (am (100 + 3 * tt)), .ref (am (100 + 3 * uu)), .int p] [] d_re_readsItem_200 hZ (kc_re_70 (k9 := 5 + 2 * d) (mc9 := 0) (ms9 := 0)) (hr_of (by omega) (by decide) (by decide) (by decide)) (W.1.2 15 (by decide) (by decide)) rfl rfl (ht_re_readsVariant n tt uu p hd hZ hNw W1 hM1 hT1 (hsc.tr (ri_B0_sc B n uu p ab inn)) hA0 hn6 h8 ht hu e7t ct6 hcu cu6 (by omega) rfl (fun gp => by
              obtain ⟨a, ha, ea⟩ := n_pl1 (p := p) ⟨fun z => gp (Or.inl z), fun z => gp (Or.inr (Int32.lt_of_lt_of_le (by decide) z))⟩
              refine R1.nx (by omega) k1.by.l ((gsG_nj (S := (gsA (gsG S 10 3 (.int (nI (n + 1)))) 11 n p)) (k := 15) (j := 3) (k' := 10) (j' := 3) (v := .long (lN (bb B0 i p))) (Or.inl (by decide))).trans hc10) (fun k hk => ⟨(hea k hk).1, (hea k hk).2.1, gsL_nj (gsG (gsA (gsG S 10 3 (.int (nI (n + 1)))) 11 n p) 15 3 (.long (lN (bb B0 i p)))) 12 n _ (Or.inr (by omega))⟩) (ri_B0_sc B n uu p ab inn) rB0_kp hu rB0_44 (IR_10 (pp := a) (b := bb B0 i p) (by rw [rB0_k (by omega), e2, ← hal.1]; exact e82) (by rw [rB0_45]; exact hp11) ha (by rw [rB0_45]; exact ea) (hX13 gp).1 ?_ (gsL_eq (gsG (gsA (gsG S 10 3 (.int (nI (n + 1)))) 11 n p) 15 3 (.long (lN (bb B0 i p)))) 12 n _)) (HA.by (S := (gsA (gsG S 10 3 (.int (nI (n + 1)))) 11 n p)) hA0 hn6)
              have := (hX13 gp).2
              rw [ea, n_ia hi ha] at this
              rw [rB0_k (by omega), ea]
              exact this) (fun j n1 B => rd_i (B0 4) ct i d (pt tt j) (pt uu j) (p + B0 9 (6 * tt + j)) (nI n) (B0 9 (6 * uu + j)) n1 B) (4 + 2 * d) (rd_i (B0 4) ct i (d + 1) tt uu p ab inn n B) (fun z => rd_l (by rw [ri_10 hn200 h2 e2t, if_pos z])) (fun z1 z2 => rd_l (by rw [ri_10 hn200 h2 e2t, if_neg z1, (hX13 z1).2, e7, e7t, if_pos (fun w => z2 (n_lt _ _ w (ha := by have := (hX13 z1).1; omega)))])) (fun z1 z2 => rd_10 hW hsc hn200 h2 e2t ht hu hcu z1 (hX13 z1).2 (hX13 z1).1 z2) (fun j hj n9 B9 T9 hR9 => ihd (pt tt j) (pt uu j) _ (nI n) _ n9 B9 T9 (by have := (hW.2.2 tt j ht hj).2.2; omega) (hparts j (by omega)) hR9) (by omega) (by omega) (by omega)) (fun r9 w9 hw => ?_)
            obtain ⟨y, S9, x1, x2, hb⟩ := hw
            subst x1
            subst x2
            refine ev_eq (st' := [.int y]) ?_
            refine ev_zret 203 d_re_readsItem_203 rfl ?_ ?_
            · first | rfl | exact rq_n hb | exact rq_n hb.2 | (rcases hb with ⟨_, _, _, _, rfl, _⟩ | ⟨_, rfl, _⟩ <;> rfl) | (rcases hb.2 with ⟨_, _, rfl, _⟩ | ⟨_, rfl, _⟩ <;> rfl)
            have st0 : st_k S B n (gsA (gsG S 10 3 (.int (nI (n + 1)))) 11 n p) (ri_B0 B n uu p ab inn) n := ⟨k1, h14, rB0_kp, Nat.le_refl n, hea⟩
            exact RQ.tr st0 ⟨y, S9, rfl, rfl, hb⟩
          · subst h82
            replace e82 : B0 2 tt = 11 := e82
            refine ev_topi 11 e82 ?_
            refine ev_tabIn 82 204 d_re_readsItem_82 (by decide) (by decide) rfl ?_
            have hA0 : HA am hd (gsA (gsG S 10 3 (.int (nI (n + 1)))) 11 n p) (ri_B0 B n uu p ab inn) fr0 (lnB (ri_B0 B n uu p ab inn)) ni := HA.b hA1 (fun f hf => rB0_k (by omega))
            have st1 : st_k S B n (gsA (gsG S 10 3 (.int (nI (n + 1)))) 11 n p) (ri_B0 B n uu p ab inn) (n + 1) := ⟨k1, h14, rB0_kp, by omega, hea⟩
            have hk11 : ¬ B0 2 tt ≤ 10 := by rw [e82]; decide
            have hT2 : TyR K am N (gsA (gsG S 10 3 (.int (nI (n + 1)))) 11 n p) (ri_B0 B n uu p ab inn) NT ct pt := hT1.tr (fun _ _ _ _ => rfl) (fun _ _ _ _ => rfl) rfl (fun f h1 h2 => (rB0_k (by omega)).trans (hsc f (by omega) (by omega) (by omega) (by omega)))
            have hM2 : me_R (gsA (gsG S 10 3 (.int (nI (n + 1)))) 11 n p) (ri_B0 B n uu p ab inn) i := fun a ha => by rw [rB0_k (by omega), e13]; exact hM1 a ha
            have h82 : mo_b8 (ri_B0 B n uu p ab inn) := fun j hj => by rw [rB0_k (by omega), e13]; exact h8 j hj
            refine ev_aload_0 204 d_re_readsItem_204 ?_
            refine ev_iload_4 205 d_re_readsItem_205 ?_
            refine ev_aload_1 207 d_re_readsItem_207 ?_
            refine ev_iload_3 208 d_re_readsItem_208 ?_
            refine gw_callV 209 15 [.int (nI n), .ref (am (100 + 3 * tt)), .int p] [] d_re_readsItem_209 hZ (kc_re_74 (k9 := 3) (mc9 := 0) (ms9 := 0)) (hr_of (by omega) (by decide) (by decide) (by decide)) (W.1.2 15 (by decide) (by decide)) rfl rfl (ht_re_readsHandle n tt p hZ hNw W1 hM2 h82 hT2 ht hd hZ9 hDi hn6 hin hA0 (by omega) (by decide) (by decide)) (fun r9 w9 hw => ?_)
            obtain ⟨y, S9, x1, x2, hb⟩ := hw
            subst x1
            subst x2
            refine ev_eq (st' := [.int y]) ?_
            refine ev_zret 212 d_re_readsItem_212 rfl ?_ ?_
            · first | rfl | exact rq_n hb | exact rq_n hb.2 | (rcases hb with ⟨_, _, _, _, rfl, _⟩ | ⟨_, rfl, _⟩ <;> rfl) | (rcases hb.2 with ⟨_, _, rfl, _⟩ | ⟨_, rfl, _⟩ <;> rfl)
            obtain ⟨hk9, hb⟩ := hb
            have ri := ri_11 (ct := ct) (ii := i) (uu := uu) (ab := ab) (inn := inn) hn200 h2 (show ¬ B 2 tt ≤ 10 by rw [e2]; exact hk11)
            rcases hb with ⟨e, h1, h2y, h3, h4, h5⟩ | ⟨h1, h2y, ⟨g1, g2, g3⟩, ⟨b, b1, b2, b3, b4, b5⟩, g4, g5⟩
            · rw [h1] at ri
              exact ⟨_, _, rfl, rfl, Or.inl ⟨e, rd_l ri, h2y, k1.tr hk9, h3, h4, _, hsc.tr (ri_B0_sc B n uu p ab inn), h5⟩⟩
            · obtain ⟨y9, -, z3, z4⟩ := mo_rh_it hi h1
              have zsc : mo_sc (ri_B0 B n uu p ab inn) (mo_rh (ri_B0 B n uu p ab inn) i tt p n).2 := fun k z1 z2 z5 z6 => z4 k (by omega) z1 z2
              have zkp : kp n B (mo_rh (ri_B0 B n uu p ab inn) i tt p n).2 := kp.tr rB0_kp (fun f f1 f2 k hk => by
                by_cases e : f = 48
                · subst e; rw [z3, upd_ne (by omega)]
                · rw [z4 f e (by omega) (by omega)]) (Nat.le_refl n)
              rw [h1] at ri
              have hea9 : ∀ k, k < n → S9.2.1 11 k = S.2.1 11 k ∧ S9.2.1 13 k = S.2.1 13 k ∧ S9.2.2.2 12 k = S.2.2.2 12 k := fun k hk => by
                rw [g3, g4 k (by omega)]
                exact hea k hk
              refine ⟨_, _, rfl, rfl, Or.inr ⟨(n + 1, _), rd_0 ri, h2y, ⟨k1.tr hk9, g1.trans h14, zkp, by omega, hea9⟩, R1.nx (by omega) (k1.tr hk9) (by rw [g2]; exact hc10) hea9 ((ri_B0_sc B n uu p ab inn).tr zsc) zkp hu (by rw [z4 44 (by decide) (by decide) (by decide)]; exact rB0_44) (IR_h ?_ ?_ b1 b2 b3 b4 ?_) g5⟩⟩
              · try dsimp only
                rw [z4 2 (by decide) (by decide) (by decide), rB0_k (by omega), e2, ← hal.1]; exact hk11
              · try dsimp only
                rw [z4 45 (by decide) (by decide) (by decide), rB0_45, g3]; exact hp11
              · try dsimp only
                rw [z4 16 (by decide) (by decide) (by decide)]; exact b5
          · subst h82
            replace e82 : B0 2 tt = 12 := e82
            refine ev_topi 12 e82 ?_
            refine ev_tabIn 82 204 d_re_readsItem_82 (by decide) (by decide) rfl ?_
            have hA0 : HA am hd (gsA (gsG S 10 3 (.int (nI (n + 1)))) 11 n p) (ri_B0 B n uu p ab inn) fr0 (lnB (ri_B0 B n uu p ab inn)) ni := HA.b hA1 (fun f hf => rB0_k (by omega))
            have st1 : st_k S B n (gsA (gsG S 10 3 (.int (nI (n + 1)))) 11 n p) (ri_B0 B n uu p ab inn) (n + 1) := ⟨k1, h14, rB0_kp, by omega, hea⟩
            have hk11 : ¬ B0 2 tt ≤ 10 := by rw [e82]; decide
            have hT2 : TyR K am N (gsA (gsG S 10 3 (.int (nI (n + 1)))) 11 n p) (ri_B0 B n uu p ab inn) NT ct pt := hT1.tr (fun _ _ _ _ => rfl) (fun _ _ _ _ => rfl) rfl (fun f h1 h2 => (rB0_k (by omega)).trans (hsc f (by omega) (by omega) (by omega) (by omega)))
            have hM2 : me_R (gsA (gsG S 10 3 (.int (nI (n + 1)))) 11 n p) (ri_B0 B n uu p ab inn) i := fun a ha => by rw [rB0_k (by omega), e13]; exact hM1 a ha
            have h82 : mo_b8 (ri_B0 B n uu p ab inn) := fun j hj => by rw [rB0_k (by omega), e13]; exact h8 j hj
            refine ev_aload_0 204 d_re_readsItem_204 ?_
            refine ev_iload_4 205 d_re_readsItem_205 ?_
            refine ev_aload_1 207 d_re_readsItem_207 ?_
            refine ev_iload_3 208 d_re_readsItem_208 ?_
            refine gw_callV 209 15 [.int (nI n), .ref (am (100 + 3 * tt)), .int p] [] d_re_readsItem_209 hZ (kc_re_74 (k9 := 3) (mc9 := 0) (ms9 := 0)) (hr_of (by omega) (by decide) (by decide) (by decide)) (W.1.2 15 (by decide) (by decide)) rfl rfl (ht_re_readsHandle n tt p hZ hNw W1 hM2 h82 hT2 ht hd hZ9 hDi hn6 hin hA0 (by omega) (by decide) (by decide)) (fun r9 w9 hw => ?_)
            obtain ⟨y, S9, x1, x2, hb⟩ := hw
            subst x1
            subst x2
            refine ev_eq (st' := [.int y]) ?_
            refine ev_zret 212 d_re_readsItem_212 rfl ?_ ?_
            · first | rfl | exact rq_n hb | exact rq_n hb.2 | (rcases hb with ⟨_, _, _, _, rfl, _⟩ | ⟨_, rfl, _⟩ <;> rfl) | (rcases hb.2 with ⟨_, _, rfl, _⟩ | ⟨_, rfl, _⟩ <;> rfl)
            obtain ⟨hk9, hb⟩ := hb
            have ri := ri_11 (ct := ct) (ii := i) (uu := uu) (ab := ab) (inn := inn) hn200 h2 (show ¬ B 2 tt ≤ 10 by rw [e2]; exact hk11)
            rcases hb with ⟨e, h1, h2y, h3, h4, h5⟩ | ⟨h1, h2y, ⟨g1, g2, g3⟩, ⟨b, b1, b2, b3, b4, b5⟩, g4, g5⟩
            · rw [h1] at ri
              exact ⟨_, _, rfl, rfl, Or.inl ⟨e, rd_l ri, h2y, k1.tr hk9, h3, h4, _, hsc.tr (ri_B0_sc B n uu p ab inn), h5⟩⟩
            · obtain ⟨y9, -, z3, z4⟩ := mo_rh_it hi h1
              have zsc : mo_sc (ri_B0 B n uu p ab inn) (mo_rh (ri_B0 B n uu p ab inn) i tt p n).2 := fun k z1 z2 z5 z6 => z4 k (by omega) z1 z2
              have zkp : kp n B (mo_rh (ri_B0 B n uu p ab inn) i tt p n).2 := kp.tr rB0_kp (fun f f1 f2 k hk => by
                by_cases e : f = 48
                · subst e; rw [z3, upd_ne (by omega)]
                · rw [z4 f e (by omega) (by omega)]) (Nat.le_refl n)
              rw [h1] at ri
              have hea9 : ∀ k, k < n → S9.2.1 11 k = S.2.1 11 k ∧ S9.2.1 13 k = S.2.1 13 k ∧ S9.2.2.2 12 k = S.2.2.2 12 k := fun k hk => by
                rw [g3, g4 k (by omega)]
                exact hea k hk
              refine ⟨_, _, rfl, rfl, Or.inr ⟨(n + 1, _), rd_0 ri, h2y, ⟨k1.tr hk9, g1.trans h14, zkp, by omega, hea9⟩, R1.nx (by omega) (k1.tr hk9) (by rw [g2]; exact hc10) hea9 ((ri_B0_sc B n uu p ab inn).tr zsc) zkp hu (by rw [z4 44 (by decide) (by decide) (by decide)]; exact rB0_44) (IR_h ?_ ?_ b1 b2 b3 b4 ?_) g5⟩⟩
              · try dsimp only
                rw [z4 2 (by decide) (by decide) (by decide), rB0_k (by omega), e2, ← hal.1]; exact hk11
              · try dsimp only
                rw [z4 45 (by decide) (by decide) (by decide), rB0_45, g3]; exact hp11
              · try dsimp only
                rw [z4 16 (by decide) (by decide) (by decide)]; exact b5
        · refine ev_tabOut 82 213 d_re_readsItem_82 e82 ?_
          obtain ⟨kd, k9a, k9b⟩ := hT.kd ht
          have hne : kd < 6 := by rw [k9b, nI_toInt (by omega)] at e82; omega
          have g9 : ∀ c : Nat, 6 ≤ c → c < 100 → ¬ B0 2 tt = nI c := fun c h1 h2 z => by rw [k9b] at z; exact absurd (n_eq kd c z) (by omega)
          have kle : B0 2 tt ≤ 10 := by rw [k9b]; exact nI_le (b := 10) (by omega) (by decide)
          have k6 : ¬ B0 2 tt = 6 := g9 6 (by decide) (by decide)
          have k8 : ¬ B0 2 tt = 8 := g9 8 (by decide) (by decide)
          have k9 : ¬ B0 2 tt = 9 := g9 9 (by decide) (by decide)
          have k10 : ¬ B0 2 tt = 10 := g9 10 (by decide) (by decide)
          obtain ⟨sz9, s1, s2, s3, s4⟩ := (hD tt ht).2.2 k6 k8 k9 k10 kle
          have es : sz9 = sz tt := n_eq sz9 (sz tt) (s1.symm.trans hst)
          rw [← es] at hst hs1
          have hsu : sz uu = sz9 := (hSS tt uu ht hu hal.1 k9 k10).symm.trans es.symm
          refine ev_aload_0 213 d_re_readsItem_213 ?_
          refine ev_iload_4 214 d_re_readsItem_214 ?_
          refine ev_aload_1 216 d_re_readsItem_216 ?_
          refine ev_iload_3 217 d_re_readsItem_217 ?_
          refine gw_callV 218 15 [.int (nI n), .ref (am (100 + 3 * tt)), .int p] [] d_re_readsItem_218 hZ (kc_re_78 (k9 := 3) (mc9 := 0) (ms9 := 0)) (hr_of (by omega) (by decide) (by decide) (by decide)) (W.1.2 15 (by decide) (by decide)) rfl rfl (ht_re_readsNumber n tt p hZ hNw W1 hM1 h8 hT1 ht hst s3 hs1 s4 (by omega) (by decide) (by decide)) (fun r9 w9 hw => ?_)
          obtain ⟨y, S9, x1, x2, hb⟩ := hw
          subst x1
          subst x2
          refine ev_eq (st' := [.int y]) ?_
          refine ev_zret 221 d_re_readsItem_221 rfl ?_ ?_
          · first | rfl | exact rq_n hb | exact rq_n hb.2 | (rcases hb with ⟨_, _, _, _, rfl, _⟩ | ⟨_, rfl, _⟩ <;> rfl) | (rcases hb.2 with ⟨_, _, rfl, _⟩ | ⟨_, rfl, _⟩ <;> rfl)
          have ri := ri_0 (ct := ct) (ii := i) (uu := uu) (ab := ab) (inn := inn) hn200 h2 (by rw [e2]; exact k6) (by rw [e2]; exact k8) (by rw [e2]; exact k9) (by rw [e2]; exact k10) (by rw [e2]; exact kle)
          rw [rp_c hsc] at ri
          rcases hb with ⟨c, q, v, h1, h2y, e9⟩ | ⟨h1, h2y, e9⟩
          · subst e9
            rw [h1] at ri
            exact ⟨_, _, rfl, rfl, Or.inl ⟨(c, q), rd_l ri, h2y, k1.by.sp, sp_0 _ _ _, sp_1 _ _ _, B, hsc, (hA1.by hn6).sp hn6⟩⟩
          · subst e9
            rw [h1] at ri
            have hrg : mo_rg p sz9 = none := by
              cases hx : mo_rg p sz9 with
              | none => rfl
              | some q => rw [mo_rp1 hst s3 hx] at h1; cases h1
            have hea9 : ∀ k, k < n → (gsL (gsG (gsA (gsG S 10 3 (.int (nI (n + 1)))) 11 n p) 15 3 (.long (lN (by_w B0 i p sz9)))) 12 n (lN (by_w B0 i p sz9))).2.1 11 k = S.2.1 11 k ∧ (gsL (gsG (gsA (gsG S 10 3 (.int (nI (n + 1)))) 11 n p) 15 3 (.long (lN (by_w B0 i p sz9)))) 12 n (lN (by_w B0 i p sz9))).2.1 13 k = S.2.1 13 k ∧ (gsL (gsG (gsA (gsG S 10 3 (.int (nI (n + 1)))) 11 n p) 15 3 (.long (lN (by_w B0 i p sz9)))) 12 n (lN (by_w B0 i p sz9))).2.2.2 12 k = S.2.2.2 12 k := fun k hk => ⟨(hea k hk).1, (hea k hk).2.1, gsL_nj (gsG (gsA (gsG S 10 3 (.int (nI (n + 1)))) 11 n p) 15 3 (.long (lN (by_w B0 i p sz9)))) 12 n _ (Or.inr (by omega))⟩
            have e4u : ((ri_B0 B n uu p ab inn) 4 uu).toNatClampNeg = sz9 := by rw [rB0_k (by omega), e4, (hS uu hu).1, hsu, nI_clamp (by omega)]
            refine ⟨_, _, rfl, rfl, Or.inr ⟨(n + 1, (ri_B0 B n uu p ab inn)), rd_0 ri, h2y, ⟨k1.by.l, (funext (fun j => gsG_nj (S := (gsA (gsG S 10 3 (.int (nI (n + 1)))) 11 n p)) (k := 15) (j := 3) (k' := 14) (j' := j) (v := .long (lN (by_w B0 i p sz9))) (Or.inl (by decide)))).trans h14, rB0_kp, by omega, hea9⟩, R1.nx (by omega) k1.by.l ((gsG_nj (S := (gsA (gsG S 10 3 (.int (nI (n + 1)))) 11 n p)) (k := 15) (j := 3) (k' := 10) (j' := 3) (v := .long (lN (by_w B0 i p sz9))) (Or.inl (by decide))).trans hc10) hea9 (ri_B0_sc B n uu p ab inn) rB0_kp hu (rB0_44 (p := p) (ab := ab) (inn := inn)) (IR_p ?_ ?_ ?_ ?_ ?_ ?_ ?_) (HA.by (S := (gsA (gsG S 10 3 (.int (nI (n + 1)))) 11 n p)) (HA.b hA1 (fun f hf => rB0_k (by omega))) hn6)⟩⟩
            · try dsimp only
              rw [rB0_k (by omega), e2, ← hal.1]; exact k6
            · try dsimp only
              rw [rB0_k (by omega), e2, ← hal.1]; exact k8
            · try dsimp only
              rw [rB0_k (by omega), e2, ← hal.1]; exact k10
            · try dsimp only
              rw [rB0_k (by omega), e2, ← hal.1]; exact kle
            · try dsimp only
              rw [rB0_45]; exact hp11
            · try dsimp only
              rw [rB0_45, e4u]; exact hrg
            · try dsimp only
              rw [rB0_45, e4u, by_w_c (B := B0) (B' := (ri_B0 B n uu p ab inn)) (by rw [rB0_k (by omega), e13])]; exact gsL_eq (gsG (gsA (gsG S 10 3 (.int (nI (n + 1)))) 11 n p) 15 3 (.long (lN (by_w B0 i p sz9)))) 12 n _
      · have h2 : ¬ p - p / B 5 tt * B 5 tt = 0 := by rw [e5, e5t]; exact fun z => c32 ((ar_al p hal4).mpr z)
        refine ev_aload_0 35 d_re_readsItem_35 ?_
        refine gw_get 36 15 2 d_re_readsItem_36 lk_re_23 (W.1.2 15 (by decide) (by decide)) rfl (.ref (am 14)) W.2.2.1.2.2 ?_
        refine ev_iconst_5 39 d_re_readsItem_39 ?_
        refine ev_iload_3 40 d_re_readsItem_40 ?_
        refine gw_callV 41 14 [.int 5, .int p] [] d_re_readsItem_41 hZ (kc_re_33 (k9 := 0) (mc9 := 0) (ms9 := 0)) (hr_of (by omega) (by decide) (by decide) (by decide)) (W.1.2 14 (by decide) (by decide)) rfl rfl (ht_tr_springs 5 p W.1.1 (W.1.2 14 (by decide) (by decide))) (fun r9 w9 hw => ?_)
        obtain ⟨e1, e9⟩ := hw
        subst e1
        subst e9
        refine ev_eq (st' := [.int 0]) ?_
        refine ev_zret 44 d_re_readsItem_44 rfl ?_ ?_
        · first | rfl | exact rq_n hb | exact rq_n hb.2 | (rcases hb with ⟨_, _, _, _, rfl, _⟩ | ⟨_, rfl, _⟩ <;> rfl) | (rcases hb.2 with ⟨_, _, rfl, _⟩ | ⟨_, rfl, _⟩ <;> rfl)
        exact ⟨_, _, rfl, rfl, Or.inl ⟨(5, p), rd_l (ri_al hn200 h2), rfl, (rkp.rf S).sp, sp_0 _ _ _, sp_1 _ _ _, B, hsc, hA.sp hn6⟩⟩
    · have h10 := n_nlt n 200 c10
      have hn200 : n = 200 := by omega
      refine ev_aload_0 13 d_re_readsItem_13 ?_
      refine gw_get 14 15 2 d_re_readsItem_14 lk_re_23 (W.1.2 15 (by decide) (by decide)) rfl (.ref (am 14)) W.2.2.1.2.2 ?_
      refine ev_bipush (10) 17 d_re_readsItem_17 (by decide) ?_
      refine ev_iload_3 19 d_re_readsItem_19 ?_
      refine gw_callV 20 14 [.int 10, .int p] [] d_re_readsItem_20 hZ (kc_re_33 (k9 := 0) (mc9 := 0) (ms9 := 0)) (hr_of (by omega) (by decide) (by decide) (by decide)) (W.1.2 14 (by decide) (by decide)) rfl rfl (ht_tr_springs 10 p W.1.1 (W.1.2 14 (by decide) (by decide))) (fun r9 w9 hw => ?_)
      obtain ⟨e1, e9⟩ := hw
      subst e1
      subst e9
      refine ev_eq (st' := [.int 0]) ?_
      refine ev_zret 23 d_re_readsItem_23 rfl ?_ ?_
      · first | rfl | exact rq_n hb | exact rq_n hb.2 | (rcases hb with ⟨_, _, _, _, rfl, _⟩ | ⟨_, rfl, _⟩ <;> rfl) | (rcases hb.2 with ⟨_, _, rfl, _⟩ | ⟨_, rfl, _⟩ <;> rfl)
      exact ⟨_, _, rfl, rfl, Or.inl ⟨(10, p), rd_l (ri_200 hn200), rfl, (rkp.rf S).sp, sp_0 _ _ _, sp_1 _ _ _, B, hsc, hA.sp hn6⟩⟩
