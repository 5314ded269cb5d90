set_option maxHeartbeats 4000000 in
set_option maxRecDepth 100000 in
theorem ht_hc_endAllCalls {l : Launch} {D : va_G} {tl : List (ClassId × FieldType)} {Z : (Nat → Prop) → State → Heap → Prop} {K : List Nat} {am : Nat → Nat} {ks : Nat → ClassId} {N : Nat → Nat} {S : gS} {k : Nat} (P : Nat) {s b30 : Nat → Int32} {ni Lv : Nat} {ru : Nat → Nat} {ho : Nat → Nat → Nat} (hd : Nat → Nat) (hZe : ev_Zok Z) (hZ : ho_Z Z hd) (hDi : ho_D hd) (h0 : hc_w0 K am N S) (hL : S.1 0 11 = .int (nI Lv)) (hL6 : Lv ≤ 6) (hru : ∀ k, k < Lv → S.2.1 5 k = nI (ru k) ∧ ru k < ni ∧ b30 k = nI (ru k)) (hni : S.1 0 5 = .int (nI ni)) (hn6 : ni ≤ 6) (hins : ∀ i, i < ni → in_ok K am N S i ∧ S.2.2.1 3 i = some (am (200 + 20 * i)) ∧ S.1 (200 + 20 * i) 3 = .int (s i)) (hho : ∀ i h, i < ni → h < 16 → ho i h < 5 ∧ S.1 (203 + 20 * i + h) 3 = .ref (hd (ho i h))) (hP : P < ni) (hk1 : 1 < k) : MT (hc_π l D ks tl Z) (m_hc_endAllCalls k 0 0) 0 0 [.ref (am 0), .int (nI P)] (gw K am ks N S) (fun r w => r = none ∧ ∃ S2, w = gw K am ks N S2 ∧ ekp S S2 ∧ S2.1 0 17 = .int (nI P) ∧ S2.1 0 11 = .int 0 ∧ ∀ i, i < ni → S2.1 (200 + 20 * i) 2 = .int 128 ∧ S2.1 (200 + 20 * i) 3 = .int (upd (mo_t3 s b30 Lv) P 2 i) ∧ ∀ h, h < 16 → S2.1 (203 + 20 * i + h) 3 = .ref (hd (h_un (ho i h))) ∧ S2.1 (203 + 20 * i + h) 2 = .int 0) := by
  refine mt_of pl_hc rfl (Nat.le_of_ble_eq_true rfl) (ev_eq (lv' := [some (.ref (am 0)), some (.int (nI P)), none]) ?_)
  have L53 : ∀ (m n : Nat) (S2 : gS), ni - n < m → n ≤ ni → ekp S S2 → S2.1 0 17 = .int (nI P) → S2.1 0 11 = .int 0 → (∀ i, i < ni → S2.1 (200 + 20 * i) 3 = .int (upd (mo_t3 s b30 Lv) P 2 i)) → (∀ i, i < n → S2.1 (200 + 20 * i) 2 = .int 128 ∧ ∀ h, h < 16 → S2.1 (203 + 20 * i + h) 3 = .ref (hd (h_un (ho i h))) ∧ S2.1 (203 + 20 * i + h) 2 = .int 0) → (∀ i, n ≤ i → i < ni → ∀ h, h < 16 → S2.1 (203 + 20 * i + h) 3 = .ref (hd (ho i h))) → EV (hc_π l D ks tl Z) (m_hc_endAllCalls k 0 0) (ev_E (hc_π l D ks tl Z) 0 0 (fun r w => r = none ∧ ∃ S2, w = gw K am ks N S2 ∧ ekp S S2 ∧ S2.1 0 17 = .int (nI P) ∧ S2.1 0 11 = .int 0 ∧ ∀ i, i < ni → S2.1 (200 + 20 * i) 2 = .int 128 ∧ S2.1 (200 + 20 * i) 3 = .int (upd (mo_t3 s b30 Lv) P 2 i) ∧ ∀ h, h < 16 → S2.1 (203 + 20 * i + h) 3 = .ref (hd (h_un (ho i h))) ∧ S2.1 (203 + 20 * i + h) 2 = .int 0)) 0 0 53 [some (.ref (am 0)), some (.int (nI P)), some (.int (nI n))] [] (gw K am ks N S2) := by
    intro m
    induction m with
    | zero => intro n S2 h; omega
    | succ m ih =>
      intro n S2 hm hn ke g17 g11 g3 gd gr
      have w0 := h0.ek ke
      refine ev_iload_2 53 d_hc_endAllCalls_53 ?_
      refine ev_aload_0 54 d_hc_endAllCalls_54 ?_
      refine gw_get 55 0 5 d_hc_endAllCalls_55 lk_hc_31 (w0.1.2 0 (by decide)) rfl (.int (nI ni)) (by rw [ke.1 0 5 (by omega) (fun z => absurd z.1 (by decide)) (fun z => absurd z.1 (by decide))]; exact hni) ?_
      refine ev_icmpge 58 88 d_hc_endAllCalls_58 (fun c58 => ?_) (fun c58 => ?_)
      · have h58 := n_le ni n c58
        obtain rfl : n = ni := by omega
        refine ev_vret 88 d_hc_endAllCalls_88 rfl ?_
        exact ⟨rfl, S2, rfl, ke, g17, g11, fun i hi => ⟨(gd i hi).1, g3 i hi, (gd i hi).2⟩⟩
      · have h58 := n_nle ni n c58
        have keH : ekp S (gsG S2 (200 + 20 * n) 2 (.int 128)) := ke.g (Or.inr (Or.inl ⟨(gk_in n (by omega)).1, Or.inl rfl⟩))
        refine ev_aload_0 61 d_hc_endAllCalls_61 ?_
        refine gw_get 62 0 4 d_hc_endAllCalls_62 lk_hc_27 (w0.1.2 0 (by decide)) rfl (.ref (am 3)) w0.2.2.2.2.1 ?_
        refine ev_iload_2 65 d_hc_endAllCalls_65 ?_
        refine gw_qld (j := n) 66 3 d_hc_endAllCalls_66 (w0.1.2 3 (by decide)) rfl (by rw [w0.2.1.2.2.1]; omega) (by rw [w0.2.1.2.2.1]; decide) (some (am (200 + 20 * n))) (by rw [ke.2]; exact (hins n (by omega)).2.1) ?_
        refine ev_sipush (128) 67 d_hc_endAllCalls_67 (by decide) ?_
        refine gw_put 70 (200 + 20 * n) 2 d_hc_endAllCalls_70 lp_hc_297 h0.1.1 (hins n (by omega)).1.1 (gk_in n (by omega)).1 (vp_nar_int _) rfl ?_
        refine ev_aload_0 73 d_hc_endAllCalls_73 ?_
        refine gw_get 74 0 4 d_hc_endAllCalls_74 lk_hc_27 (w0.1.2 0 (by decide)) rfl (.ref (am 3)) (h0.ek keH).2.2.2.2.1 ?_
        refine ev_iload_2 77 d_hc_endAllCalls_77 ?_
        refine gw_qld (j := n) 78 3 d_hc_endAllCalls_78 (w0.1.2 3 (by decide)) rfl (by rw [w0.2.1.2.2.1]; omega) (by rw [w0.2.1.2.2.1]; decide) (some (am (200 + 20 * n))) (by rw [keH.2]; exact (hins n (by omega)).2.1) ?_
        refine gw_callV 79 (200 + 20 * n) [] [] d_hc_endAllCalls_79 hZe (kc_hc_359 (k9 := 1) (mc9 := 0) (ms9 := 0)) (hr_of hk1 (by decide) (by decide) (by decide)) (hins n (by omega)).1.1 (gk_in n (by omega)).1 rfl (ht_in_undoLoansAndPassing n hd hZ hDi (by omega) ((hins n (by omega)).1.ek keH) (ho n) (fun h hh => ⟨(hho n h (by omega) hh).1, (gsG_nj (Or.inl (nk45 (by omega) (by omega) hh))).trans (gr n (Nat.le_refl n) (by omega) h hh)⟩) hZe h0.1.1 (by decide)) (fun r9 w9 hw => ?_)
        obtain ⟨x1, S3, x2, q1, q2, q3⟩ := hw
        subst x1
        subst x2
        refine ev_eq (st' := []) ?_
        refine ev_iinc_2 82 d_hc_endAllCalls_82 ?_ (hn := by exact Nat.le_of_ble_eq_true rfl)
        refine ev_goto 85 53 d_hc_endAllCalls_85 ?_
        have k5 : ∀ i, i < 6 → ¬ (gk (200 + 20 * i) = 4 ∧ (3 = 2 ∨ 3 = 3)) := fun i hi z => by rw [(gk_in i hi).1] at z; exact absurd z.1 (by decide)
        refine ev_eq (ih (n + 1) S3 (by omega) (by omega) (keH.tr q1.ek) ?_ ?_ (fun i hi => ?_) (fun i hi => ?_) (fun i h1 h2 h hh => ?_)) (h1 := by rw [n_i1])
        · rw [q1.1 0 17 (fun z => absurd z.1 (by decide)), gsG_nj (Or.inl (by omega))]; exact g17
        · rw [q1.1 0 11 (fun z => absurd z.1 (by decide)), gsG_nj (Or.inl (by omega))]; exact g11
        · rw [q1.1 _ 3 (k5 i (by omega)), gsG_nj (Or.inr (by decide))]; exact g3 i hi
        · by_cases e : i = n
          · subst e
            refine ⟨?_, q3⟩
            rw [q2 _ _ (fun h hh => (nk45 (by omega) (by omega) hh).symm)]
            exact gsG_eq _ _ _ _
          · obtain ⟨d1, d2⟩ := gd i (by omega)
            refine ⟨?_, fun h hh => ?_⟩
            · rw [q2 _ _ (fun h hh => (nk45 (by omega) (by omega) hh).symm), gsG_nj (Or.inl (by omega))]; exact d1
            · rw [q2 _ _ (fun h9 hh9 => by omega), q2 _ _ (fun h9 hh9 => by omega), gsG_nj (Or.inl (by omega)), gsG_nj (Or.inl (by omega))]; exact d2 h hh
        · rw [q2 _ _ (fun h9 hh9 => by omega), gsG_nj (Or.inl (by omega))]; exact gr i (by omega) h2 h hh
  have L7 : ∀ (m n : Nat) (S1 : gS), Lv - n < m → n ≤ Lv → ekp S S1 → S1.1 0 17 = .int (nI P) → S1.1 0 11 = .int (nI Lv) → (∀ i, i < ni → S1.1 (200 + 20 * i) 3 = .int (mo_t3 s b30 n i)) → (∀ i, i < ni → ∀ h, h < 16 → S1.1 (203 + 20 * i + h) 3 = .ref (hd (ho i h))) → EV (hc_π l D ks tl Z) (m_hc_endAllCalls k 0 0) (ev_E (hc_π l D ks tl Z) 0 0 (fun r w => r = none ∧ ∃ S2, w = gw K am ks N S2 ∧ ekp S S2 ∧ S2.1 0 17 = .int (nI P) ∧ S2.1 0 11 = .int 0 ∧ ∀ i, i < ni → S2.1 (200 + 20 * i) 2 = .int 128 ∧ S2.1 (200 + 20 * i) 3 = .int (upd (mo_t3 s b30 Lv) P 2 i) ∧ ∀ h, h < 16 → S2.1 (203 + 20 * i + h) 3 = .ref (hd (h_un (ho i h))) ∧ S2.1 (203 + 20 * i + h) 2 = .int 0)) 0 0 7 [some (.ref (am 0)), some (.int (nI P)), some (.int (nI n))] [] (gw K am ks N S1) := by
    intro m
    induction m with
    | zero => intro n S1 h; omega
    | succ m ih =>
      intro n S1 hm hn ke g17 g11 g3 gr
      have w0 := h0.ek ke
      refine ev_iload_2 7 d_hc_endAllCalls_7 ?_
      refine ev_aload_0 8 d_hc_endAllCalls_8 ?_
      refine gw_get 9 0 11 d_hc_endAllCalls_9 lk_hc_53 (w0.1.2 0 (by decide)) rfl (.int (nI Lv)) g11 ?_
      refine ev_icmpge 12 36 d_hc_endAllCalls_12 (fun c12 => ?_) (fun c12 => ?_)
      · have h12 := n_le Lv n c12
        obtain rfl : n = Lv := by omega
        refine ev_aload_0 36 d_hc_endAllCalls_36 ?_
        refine gw_get 37 0 4 d_hc_endAllCalls_37 lk_hc_27 (w0.1.2 0 (by decide)) rfl (.ref (am 3)) w0.2.2.2.2.1 ?_
        refine ev_iload_1 40 d_hc_endAllCalls_40 ?_
        refine gw_qld (j := P) 41 3 d_hc_endAllCalls_41 (w0.1.2 3 (by decide)) rfl (by rw [w0.2.1.2.2.1]; omega) (by rw [w0.2.1.2.2.1]; decide) (some (am (200 + 20 * P))) (by rw [ke.2]; exact (hins P (by omega)).2.1) ?_
        refine ev_iconst_2 42 d_hc_endAllCalls_42 ?_
        refine gw_put 43 (200 + 20 * P) 3 d_hc_endAllCalls_43 lp_hc_182 h0.1.1 (hins P hP).1.1 (gk_in P (by omega)).1 (vp_nar_int _) rfl ?_
        refine ev_aload_0 46 d_hc_endAllCalls_46 ?_
        refine ev_iconst_0 47 d_hc_endAllCalls_47 ?_
        refine gw_put 48 0 11 d_hc_endAllCalls_48 lp_hc_53 h0.1.1 (h0.1.2 0 (by decide)) rfl (vp_nar_int _) rfl ?_
        refine ev_iconst_0 51 d_hc_endAllCalls_51 ?_
        refine ev_istore_2 52 d_hc_endAllCalls_52 ?_ (hn := by exact Nat.le_of_ble_eq_true rfl)
        have kP : ekp S (gsG (gsG S1 (200 + 20 * P) 3 (.int 2)) 0 11 (.int 0)) := (ke.g (Or.inr (Or.inl ⟨(gk_in P (by omega)).1, Or.inr rfl⟩))).g (Or.inl ⟨rfl, Or.inl rfl⟩)
        refine ev_eq (L53 (ni + 1) 0 _ (by omega) (by omega) kP ?_ ?_ (fun i hi => ?_) (fun i hi => absurd hi (by omega)) (fun i _ hi h hh => ?_))
        · rw [gsG_nj (Or.inr (by decide)), gsG_nj (Or.inl (by omega))]; exact g17
        · exact gsG_eq _ _ _ _
        · rw [gsG_nj (Or.inl (by omega))]
          by_cases e : i = P
          · subst e; rw [upd_eq]; exact gsG_eq _ _ _ _
          · rw [upd_ne e, gsG_nj (Or.inl (by omega))]; exact g3 i hi
        · rw [gsG_nj (Or.inl (by omega)), gsG_nj (Or.inl (nk45 (by omega) (by omega) hh))]; exact gr i hi h hh
      · have h12 := n_nle Lv n c12
        refine ev_aload_0 15 d_hc_endAllCalls_15 ?_
        refine gw_get 16 0 4 d_hc_endAllCalls_16 lk_hc_27 (w0.1.2 0 (by decide)) rfl (.ref (am 3)) w0.2.2.2.2.1 ?_
        refine ev_aload_0 19 d_hc_endAllCalls_19 ?_
        refine gw_get 20 0 8 d_hc_endAllCalls_20 lk_hc_43 (w0.1.2 0 (by decide)) rfl (.ref (am 5)) w0.2.2.2.2.2.2.1 ?_
        refine ev_iload_2 23 d_hc_endAllCalls_23 ?_
        refine gw_ild (j := n) 24 5 d_hc_endAllCalls_24 (w0.1.2 5 (by decide)) rfl (by rw [w0.2.1.2.2.2.2.1]; omega) (by rw [w0.2.1.2.2.2.2.1]; decide) (nI (ru n)) (by rw [ke.2]; exact (hru n (by omega)).1) ?_
        have hrn := (hru n (by omega)).2.1
        refine gw_qld (j := (ru n)) 25 3 d_hc_endAllCalls_25 (w0.1.2 3 (by decide)) rfl (by rw [w0.2.1.2.2.1]; omega) (by rw [w0.2.1.2.2.1]; decide) (some (am (200 + 20 * (ru n)))) (by rw [ke.2]; exact (hins (ru n) (by omega)).2.1) ?_
        refine ev_iconst_0 26 d_hc_endAllCalls_26 ?_
        refine gw_put 27 (200 + 20 * ru n) 3 d_hc_endAllCalls_27 lp_hc_182 h0.1.1 (hins (ru n) hrn).1.1 (gk_in (ru n) (by omega)).1 (vp_nar_int _) rfl ?_
        refine ev_iinc_2 30 d_hc_endAllCalls_30 ?_ (hn := by exact Nat.le_of_ble_eq_true rfl)
        refine ev_goto 33 7 d_hc_endAllCalls_33 ?_
        obtain ⟨r1, r2, r3⟩ := hru n (by omega)
        refine ev_eq (ih (n + 1) _ (by omega) (by omega) (ke.g (Or.inr (Or.inl ⟨(gk_in (ru n) (by omega)).1, Or.inr rfl⟩))) ?_ ?_ (fun i hi => ?_) (fun i hi h hh => ?_)) (h1 := by rw [n_i1])
        · rw [gsG_nj (Or.inl (by omega))]; exact g17
        · rw [gsG_nj (Or.inl (by omega))]; exact g11
        · rw [mo_t3, r3, nI_clamp (by omega)]
          by_cases e : i = ru n
          · subst e; rw [upd_eq]; exact gsG_eq _ _ _ _
          · rw [upd_ne e, gsG_nj (Or.inl (by omega))]; exact g3 i hi
        · rw [gsG_nj (Or.inl (nk45 (by omega) (by omega) hh))]; exact gr i hi h hh
  refine ev_aload_0 0 d_hc_endAllCalls_0 ?_
  refine ev_iload_1 1 d_hc_endAllCalls_1 ?_
  refine gw_put 2 0 17 d_hc_endAllCalls_2 lp_hc_79 h0.1.1 (h0.1.2 0 (by decide)) rfl (vp_nar_int _) rfl ?_
  refine ev_iconst_0 5 d_hc_endAllCalls_5 ?_
  refine ev_istore_2 6 d_hc_endAllCalls_6 ?_ (hn := by exact Nat.le_of_ble_eq_true rfl)
  exact ev_eq (L7 (Lv + 1) 0 _ (by omega) (by omega) ((ekp.rf S).g (Or.inl ⟨rfl, Or.inr rfl⟩)) (gsG_eq _ _ _ _) ((gsG_nj (Or.inr (by decide))).trans hL) (fun i hi => (gsG_nj (Or.inl (by omega))).trans (hins i hi).2.2) (fun i hi h hh => (gsG_nj (Or.inl (by omega))).trans (hho i h hi hh).2))
