set_option maxHeartbeats 4000000 in
set_option maxRecDepth 100000 in
theorem ht_ty_fitsWithoutParts {l : Launch} {D : va_G} {tl : List (ClassId × FieldType)} {Z : (Nat → Prop) → State → Heap → Prop} {K : List Nat} {am : Nat → Nat} {ks : Nat → ClassId} {N : Nat → Nat} {S : gS} {k : Nat} (t : Nat) (u : Nat) {B : Nat → Nat → Int32} {NT : Nat} {ct : Nat → Nat} {pt : Nat → Nat → Nat} (hT : TyR K am N S B NT ct pt) (ht : t < NT) (hu : u < NT) : MT (hc_π l D ks tl Z) (m_ty_fitsWithoutParts k 0 0) 0 0 [.ref (am (100 + 3 * t)), .ref (am (100 + 3 * u))] (gw K am ks N S) (fun r w => w = (gw K am ks N S) ∧ ∃ y, r = some (.int y) ∧ mo_bl y (mo_al B t u)) := by
  refine mt_of pl_ty rfl (Nat.le_of_ble_eq_true rfl) (ev_eq (lv' := [some (.ref (am (100 + 3 * t))), some (.ref (am (100 + 3 * u)))]) ?_)
  refine ev_aload_0 0 d_ty_fitsWithoutParts_0 ?_
  refine gw_get 1 (100 + 3 * t) 0 d_ty_fitsWithoutParts_1 lk_ty_9 (hT.k0 ht) (hT.g0 ht) (.int (B 2 t)) (hT.f0 ht) ?_
  refine ev_aload_1 4 d_ty_fitsWithoutParts_4 ?_
  refine gw_get 5 (100 + 3 * u) 0 d_ty_fitsWithoutParts_5 lk_ty_9 (hT.k0 hu) (hT.g0 hu) (.int (B 2 u)) (hT.f0 hu) ?_
  refine ev_icmpeq 8 13 d_ty_fitsWithoutParts_8 (fun c8 => ?_) (fun c8 => ?_)
  · refine ev_aload_0 13 d_ty_fitsWithoutParts_13 ?_
    refine gw_get 14 (100 + 3 * t) 0 d_ty_fitsWithoutParts_14 lk_ty_9 (hT.k0 ht) (hT.g0 ht) (.int (B 2 t)) (hT.f0 ht) ?_
    rcases sw_tab (B 2 t) 7 6 (by decide) with ⟨j17, hj17, e17⟩ | e17
    · obtain h17 | h17 | h17 | h17 | h17 | h17 : j17 = 0 ∨ j17 = 1 ∨ j17 = 2 ∨ j17 = 3 ∨ j17 = 4 ∨ j17 = 5 := by omega
      · subst h17
        replace e17 : B 2 t = 7 := e17
        refine ev_topi 7 e17 ?_
        refine ev_tabIn 17 56 d_ty_fitsWithoutParts_17 (by decide) (by decide) rfl ?_
        refine ev_aload_0 56 d_ty_fitsWithoutParts_56 ?_
        refine gw_get 57 (100 + 3 * t) 1 d_ty_fitsWithoutParts_57 lk_ty_15 (hT.k0 ht) (hT.g0 ht) (.int (B 3 t)) (hT.f1 ht) ?_
        refine ev_aload_1 60 d_ty_fitsWithoutParts_60 ?_
        refine gw_get 61 (100 + 3 * u) 1 d_ty_fitsWithoutParts_61 lk_ty_15 (hT.k0 hu) (hT.g0 hu) (.int (B 3 u)) (hT.f1 hu) ?_
        refine ev_icmpgt 64 71 d_ty_fitsWithoutParts_64 (fun c64 => ?_) (fun c64 => ?_)
        · refine ev_iconst_0 71 d_ty_fitsWithoutParts_71 ?_
          refine ev_zret 72 d_ty_fitsWithoutParts_72 rfl ?_ ?_
          · rfl
          exact ⟨rfl, _, rfl, Or.inr ⟨rfl, fun z => z.2.1 e17 c64⟩⟩
        · refine ev_iconst_1 67 d_ty_fitsWithoutParts_67 ?_
          refine ev_goto 68 72 d_ty_fitsWithoutParts_68 ?_
          refine ev_zret 72 d_ty_fitsWithoutParts_72 rfl ?_ ?_
          · rfl
          exact ⟨rfl, _, rfl, Or.inl ⟨rfl, c8, fun _ => c64, fun z => absurd (show B 2 t < 11 by rw [e17]; decide) z, fun z => absurd (e17.symm.trans z) (by decide), fun z => absurd (e17.symm.trans z) (by decide)⟩⟩
      · subst h17
        replace e17 : B 2 t = 8 := e17
        refine ev_topi 8 e17 ?_
        refine ev_tabIn 17 124 d_ty_fitsWithoutParts_17 (by decide) (by decide) rfl ?_
        refine ev_iconst_1 124 d_ty_fitsWithoutParts_124 ?_
        refine ev_zret 125 d_ty_fitsWithoutParts_125 rfl ?_ ?_
        · rfl
        exact ⟨rfl, _, rfl, Or.inl ⟨rfl, c8, fun z => absurd (e17.symm.trans z) (by decide), fun z => absurd (show B 2 t < 11 by rw [e17]; decide) z, fun z => absurd (e17.symm.trans z) (by decide), fun z => absurd (e17.symm.trans z) (by decide)⟩⟩
      · subst h17
        replace e17 : B 2 t = 9 := e17
        refine ev_topi 9 e17 ?_
        refine ev_tabIn 17 90 d_ty_fitsWithoutParts_17 (by decide) (by decide) rfl ?_
        refine ev_aload_0 90 d_ty_fitsWithoutParts_90 ?_
        refine gw_get 91 (100 + 3 * t) 2 d_ty_fitsWithoutParts_91 lk_ty_18 (hT.k0 ht) (hT.g0 ht) (.int (B 7 t)) (hT.f2 ht) ?_
        refine ev_aload_1 94 d_ty_fitsWithoutParts_94 ?_
        refine gw_get 95 (100 + 3 * u) 2 d_ty_fitsWithoutParts_95 lk_ty_18 (hT.k0 hu) (hT.g0 hu) (.int (B 7 u)) (hT.f2 hu) ?_
        refine ev_icmplt 98 105 d_ty_fitsWithoutParts_98 (fun c98 => ?_) (fun c98 => ?_)
        · refine ev_iconst_0 105 d_ty_fitsWithoutParts_105 ?_
          refine ev_zret 106 d_ty_fitsWithoutParts_106 rfl ?_ ?_
          · rfl
          exact ⟨rfl, _, rfl, Or.inr ⟨rfl, fun z => z.2.2.2.1 e17 c98⟩⟩
        · refine ev_iconst_1 101 d_ty_fitsWithoutParts_101 ?_
          refine ev_goto 102 106 d_ty_fitsWithoutParts_102 ?_
          refine ev_zret 106 d_ty_fitsWithoutParts_106 rfl ?_ ?_
          · rfl
          exact ⟨rfl, _, rfl, Or.inl ⟨rfl, c8, fun z => absurd (e17.symm.trans z) (by decide), fun z => absurd (show B 2 t < 11 by rw [e17]; decide) z, fun _ => c98, fun z => absurd (e17.symm.trans z) (by decide)⟩⟩
      · subst h17
        replace e17 : B 2 t = 10 := e17
        refine ev_topi 10 e17 ?_
        refine ev_tabIn 17 107 d_ty_fitsWithoutParts_17 (by decide) (by decide) rfl ?_
        refine ev_aload_0 107 d_ty_fitsWithoutParts_107 ?_
        refine gw_get 108 (100 + 3 * t) 2 d_ty_fitsWithoutParts_108 lk_ty_18 (hT.k0 ht) (hT.g0 ht) (.int (B 7 t)) (hT.f2 ht) ?_
        refine ev_aload_1 111 d_ty_fitsWithoutParts_111 ?_
        refine gw_get 112 (100 + 3 * u) 2 d_ty_fitsWithoutParts_112 lk_ty_18 (hT.k0 hu) (hT.g0 hu) (.int (B 7 u)) (hT.f2 hu) ?_
        refine ev_icmpgt 115 122 d_ty_fitsWithoutParts_115 (fun c115 => ?_) (fun c115 => ?_)
        · refine ev_iconst_0 122 d_ty_fitsWithoutParts_122 ?_
          refine ev_zret 123 d_ty_fitsWithoutParts_123 rfl ?_ ?_
          · rfl
          exact ⟨rfl, _, rfl, Or.inr ⟨rfl, fun z => z.2.2.2.2 e17 c115⟩⟩
        · refine ev_iconst_1 118 d_ty_fitsWithoutParts_118 ?_
          refine ev_goto 119 123 d_ty_fitsWithoutParts_119 ?_
          refine ev_zret 123 d_ty_fitsWithoutParts_123 rfl ?_ ?_
          · rfl
          exact ⟨rfl, _, rfl, Or.inl ⟨rfl, c8, fun z => absurd (e17.symm.trans z) (by decide), fun z => absurd (show B 2 t < 11 by rw [e17]; decide) z, fun z => absurd (e17.symm.trans z) (by decide), fun _ => c115⟩⟩
      · subst h17
        replace e17 : B 2 t = 11 := e17
        refine ev_topi 11 e17 ?_
        refine ev_tabIn 17 73 d_ty_fitsWithoutParts_17 (by decide) (by decide) rfl ?_
        refine ev_aload_0 73 d_ty_fitsWithoutParts_73 ?_
        refine gw_get 74 (100 + 3 * t) 1 d_ty_fitsWithoutParts_74 lk_ty_15 (hT.k0 ht) (hT.g0 ht) (.int (B 3 t)) (hT.f1 ht) ?_
        refine ev_aload_1 77 d_ty_fitsWithoutParts_77 ?_
        refine gw_get 78 (100 + 3 * u) 1 d_ty_fitsWithoutParts_78 lk_ty_15 (hT.k0 hu) (hT.g0 hu) (.int (B 3 u)) (hT.f1 hu) ?_
        refine ev_icmpne 81 88 d_ty_fitsWithoutParts_81 (fun c81 => ?_) (fun c81 => ?_)
        · refine ev_iconst_0 88 d_ty_fitsWithoutParts_88 ?_
          refine ev_zret 89 d_ty_fitsWithoutParts_89 rfl ?_ ?_
          · rfl
          exact ⟨rfl, _, rfl, Or.inr ⟨rfl, fun z => c81 (z.2.2.1 (by rw [e17]; decide))⟩⟩
        · refine ev_iconst_1 84 d_ty_fitsWithoutParts_84 ?_
          refine ev_goto 85 89 d_ty_fitsWithoutParts_85 ?_
          refine ev_zret 89 d_ty_fitsWithoutParts_89 rfl ?_ ?_
          · rfl
          exact ⟨rfl, _, rfl, Or.inl ⟨rfl, c8, fun z => absurd (e17.symm.trans z) (by decide), fun _ => c81, fun z => absurd (e17.symm.trans z) (by decide), fun z => absurd (e17.symm.trans z) (by decide)⟩⟩
      · subst h17
        replace e17 : B 2 t = 12 := e17
        refine ev_topi 12 e17 ?_
        refine ev_tabIn 17 73 d_ty_fitsWithoutParts_17 (by decide) (by decide) rfl ?_
        refine ev_aload_0 73 d_ty_fitsWithoutParts_73 ?_
        refine gw_get 74 (100 + 3 * t) 1 d_ty_fitsWithoutParts_74 lk_ty_15 (hT.k0 ht) (hT.g0 ht) (.int (B 3 t)) (hT.f1 ht) ?_
        refine ev_aload_1 77 d_ty_fitsWithoutParts_77 ?_
        refine gw_get 78 (100 + 3 * u) 1 d_ty_fitsWithoutParts_78 lk_ty_15 (hT.k0 hu) (hT.g0 hu) (.int (B 3 u)) (hT.f1 hu) ?_
        refine ev_icmpne 81 88 d_ty_fitsWithoutParts_81 (fun c81 => ?_) (fun c81 => ?_)
        · refine ev_iconst_0 88 d_ty_fitsWithoutParts_88 ?_
          refine ev_zret 89 d_ty_fitsWithoutParts_89 rfl ?_ ?_
          · rfl
          exact ⟨rfl, _, rfl, Or.inr ⟨rfl, fun z => c81 (z.2.2.1 (by rw [e17]; decide))⟩⟩
        · refine ev_iconst_1 84 d_ty_fitsWithoutParts_84 ?_
          refine ev_goto 85 89 d_ty_fitsWithoutParts_85 ?_
          refine ev_zret 89 d_ty_fitsWithoutParts_89 rfl ?_ ?_
          · rfl
          exact ⟨rfl, _, rfl, Or.inl ⟨rfl, c8, fun z => absurd (e17.symm.trans z) (by decide), fun _ => c81, fun z => absurd (e17.symm.trans z) (by decide), fun z => absurd (e17.symm.trans z) (by decide)⟩⟩
    · refine ev_tabOut 17 124 d_ty_fitsWithoutParts_17 e17 ?_
      refine ev_iconst_1 124 d_ty_fitsWithoutParts_124 ?_
      refine ev_zret 125 d_ty_fitsWithoutParts_125 rfl ?_ ?_
      · rfl
      obtain ⟨kd, k1, k2⟩ := hT.kd ht
      obtain ⟨d1, d2, d3, d4⟩ := al_d k2 k1 e17
      exact ⟨rfl, _, rfl, Or.inl ⟨rfl, c8, fun z => absurd z d2, fun z => absurd d1 z, fun z => absurd z d3, fun z => absurd z d4⟩⟩
  · refine ev_iconst_0 11 d_ty_fitsWithoutParts_11 ?_
    refine ev_zret 12 d_ty_fitsWithoutParts_12 rfl ?_ ?_
    · rfl
    exact ⟨rfl, _, rfl, Or.inr ⟨rfl, fun z => c8 z.1⟩⟩

theorem sh_mn {B : Nat → Nat → Int32} {ct : Nat → Nat} {t u : Nat} (h1 : B 7 t = nI (ct t)) (h2 : B 7 u = nI (ct u)) (h3 : ct t ≤ 6) (h4 : ct u ≤ 6) : (if B 7 u < B 7 t then B 7 u else B 7 t) = nI (ty_sh ct t u) := by
  rw [h1, h2, ty_sh]
  by_cases e : ct u ≤ ct t
  · rw [if_pos e]
    by_cases f : ct u < ct t
    · rw [if_pos (nI_lt f (by omega))]
    · rw [if_neg (nI_nlt (by omega) (by omega)), show ct u = ct t by omega]
  · rw [if_neg e, if_neg (nI_nlt (by omega) (by omega))]

set_option maxHeartbeats 4000000 in
set_option maxRecDepth 100000 in
theorem ht_hc_numberBehind {l : Launch} {D : va_G} {tl : List (ClassId × FieldType)} {Z : (Nat → Prop) → State → Heap → Prop} {K : List Nat} {am : Nat → Nat} {ks : Nat → ClassId} {N : Nat → Nat} {S : gS} {B : Nat → Nat → Int32} {NT : Nat} {ct dp : Nat → Nat} {pt : Nat → Nat → Nat} (hZ : ev_Zok Z) (hT : TyR K am N S B NT ct pt) (hW : ty_wf B NT ct dp pt) : ∀ (d t u n : Nat), dp t ≤ d → t < NT → u < NT → n + 7 ^ d ≤ 20000 → MT (hc_π l D ks tl Z) (m_hc_numberBehind (d + 2) 0 0) 0 0 [.ref (am (100 + 3 * t)), .ref (am (100 + 3 * u)), .int (nI (n + 1))] (gw K am ks N S) (fun r w => w = gw K am ks N S ∧ r = some (.int (nb_y (nb_r B ct pt d t u n)))) := by
  intro d
  induction d with
  | zero => intro t u n h1 h2; exact absurd (hW.2.1 t h2).2.2.1 (by omega)
  | succ d ihd =>
    intro t u n hd ht hu hn
    obtain ⟨e7t, ct6, -, -⟩ := hW.2.1 t ht
    obtain ⟨e7u, cu6, -, -⟩ := hW.2.1 u hu
    have hs1 : ty_sh ct t u ≤ ct t ∧ ty_sh ct t u ≤ ct u := by unfold ty_sh; split <;> omega
    refine mt_of pl_hc rfl (Nat.le_of_ble_eq_true rfl) (ev_eq (lv' := [some (.ref (am (100 + 3 * t))), some (.ref (am (100 + 3 * u))), some (.int (nI (n + 1))), none, none, none]) ?_)
    have LX : ∀ (m j : Nat), 1 ≤ m → m < 1000000 → nb_r B ct pt (d + 1) t u n = .inl m → EV (hc_π l D ks tl Z) (m_hc_numberBehind (d + 1 + 2) 0 0) (ev_E (hc_π l D ks tl Z) 0 0 (fun r w => w = gw K am ks N S ∧ r = some (.int (nb_y (nb_r B ct pt (d + 1) t u n))))) 0 0 31 [some (.ref (am (100 + 3 * t))), some (.ref (am (100 + 3 * u))), some (.int (nI (n + 1))), some (.int (nI (ty_sh ct t u))), some (.int (-(nI m))), some (.int (nI j))] [] (gw K am ks N S) := by
      intro m j hm1 hm2 hx
      refine ev_iload_5 31 d_hc_numberBehind_31 ?_
      refine ev_iload_3 33 d_hc_numberBehind_33 ?_
      refine ev_icmpge 34 69 d_hc_numberBehind_34 (fun c34 => ?_) (fun c34 => ?_)
      · refine ev_iload_4 69 d_hc_numberBehind_69 ?_
        refine ev_iret 71 d_hc_numberBehind_71 rfl ?_
        exact ⟨rfl, by rw [hx]; rfl⟩
      · refine ev_iload_4 37 d_hc_numberBehind_37 ?_
        refine ev_ifle 39 69 d_hc_numberBehind_39 (fun c39 => ?_) (fun c39 => ?_)
        · refine ev_iload_4 69 d_hc_numberBehind_69 ?_
          refine ev_iret 71 d_hc_numberBehind_71 rfl ?_
          exact ⟨rfl, by rw [hx]; rfl⟩
        · exact absurd (Int32.le_of_lt (nb_neg hm1 hm2)) c39
    have L31 : ∀ (r j m : Nat), r + j = ty_sh ct t u → nb_s (nb_r B ct pt d) pt t u r j m = nb_r B ct pt (d + 1) t u n → m + r * 7 ^ d ≤ 20000 → EV (hc_π l D ks tl Z) (m_hc_numberBehind (d + 1 + 2) 0 0) (ev_E (hc_π l D ks tl Z) 0 0 (fun r w => w = gw K am ks N S ∧ r = some (.int (nb_y (nb_r B ct pt (d + 1) t u n))))) 0 0 31 [some (.ref (am (100 + 3 * t))), some (.ref (am (100 + 3 * u))), some (.int (nI (n + 1))), some (.int (nI (ty_sh ct t u))), some (.int (nI (m + 1))), some (.int (nI j))] [] (gw K am ks N S) := by
      intro r
      induction r with
      | zero =>
        intro j m hj hs hb
        refine ev_iload_5 31 d_hc_numberBehind_31 ?_
        refine ev_iload_3 33 d_hc_numberBehind_33 ?_
        refine ev_icmpge 34 69 d_hc_numberBehind_34 (fun c34 => ?_) (fun c34 => ?_)
        · refine ev_iload_4 69 d_hc_numberBehind_69 ?_
          refine ev_iret 71 d_hc_numberBehind_71 rfl ?_
          exact ⟨rfl, by rw [← hs]; rfl⟩
        · exact absurd (nI_le (show ty_sh ct t u ≤ j by omega) (by omega)) c34
      | succ r ih =>
        intro j m hj hs hb
        have hjt : j < ct t := by omega
        have hju : j < ct u := by omega
        obtain ⟨-, hpt, hpd⟩ := hW.2.2 t j ht hjt
        obtain ⟨-, hpu, -⟩ := hW.2.2 u j hu hju
        have hb2 : m + r * 7 ^ d + 7 ^ d ≤ 20000 := by rw [Nat.succ_mul] at hb; omega
        refine ev_iload_5 31 d_hc_numberBehind_31 ?_
        refine ev_iload_3 33 d_hc_numberBehind_33 ?_
        refine ev_icmpge 34 69 d_hc_numberBehind_34 (fun c34 => ?_) (fun c34 => ?_)
        · exact absurd (n_le (ty_sh ct t u) j c34) (by omega)
        · refine ev_iload_4 37 d_hc_numberBehind_37 ?_
          refine ev_ifle 39 69 d_hc_numberBehind_39 (fun c39 => ?_) (fun c39 => ?_)
          · exact absurd (n_le (m + 1) 0 c39) (by omega)
          · refine ev_aload_0 42 d_hc_numberBehind_42 ?_
            refine gw_get 43 (100 + 3 * t) 3 d_hc_numberBehind_43 lk_hc_322 (hT.k0 ht) (hT.g0 ht) (.ref (am (101 + 3 * t))) (hT.f3 ht) ?_
            refine ev_iload_5 46 d_hc_numberBehind_46 ?_
            refine gw_qld (j := j) 48 (101 + 3 * t) d_hc_numberBehind_48 (hT.k1 ht) (hT.g1 ht) (by rw [hT.n1 ht]; omega) (by rw [hT.n1 ht]; omega) _ (hT.pq ht hjt) ?_
            refine ev_aload_1 49 d_hc_numberBehind_49 ?_
            refine gw_get 50 (100 + 3 * u) 3 d_hc_numberBehind_50 lk_hc_322 (hT.k0 hu) (hT.g0 hu) (.ref (am (101 + 3 * u))) (hT.f3 hu) ?_
            refine ev_iload_5 53 d_hc_numberBehind_53 ?_
            refine gw_qld (j := j) 55 (101 + 3 * u) d_hc_numberBehind_55 (hT.k1 hu) (hT.g1 hu) (by rw [hT.n1 hu]; omega) (by rw [hT.n1 hu]; omega) _ (hT.pq hu hju) ?_
            refine ev_iload_4 56 d_hc_numberBehind_56 ?_
            refine ev_callS 58 [.ref (am (100 + 3 * pt t j)), .ref (am (100 + 3 * pt u j)), .int (nI (m + 1))] [] d_hc_numberBehind_58 hZ (kc_hc_308 (k9 := d + 2) (mc9 := 0) (ms9 := 0)) (hr_of (by omega) (by decide) (by decide) (by decide)) (ihd (pt t j) (pt u j) m (by omega) hpt hpu (by omega)) (fun r9 w9 hw => ?_)
            obtain ⟨e1, e2⟩ := hw
            subst e1
            subst e2
            refine ev_eq (st' := [.int (nb_y (nb_r B ct pt d (pt t j) (pt u j) m))]) ?_
            refine ev_istore_4 61 d_hc_numberBehind_61 ?_ (hn := by exact Nat.le_of_ble_eq_true rfl)
            refine ev_iinc_5 63 d_hc_numberBehind_63 ?_ (hn := by exact Nat.le_of_ble_eq_true rfl)
            refine ev_goto 66 31 d_hc_numberBehind_66 ?_
            have hq := nb_bd hW d (pt t j) (pt u j) m hpt hpu
            cases hx : nb_r B ct pt d (pt t j) (pt u j) m with
            | inl m2 =>
              simp only [nb_s, hx] at hs
              rw [hx] at hq
              replace hq : m2 ≤ m + 7 ^ d := hq
              exact ev_eq (LX m2 (j + 1) (nb_r_l d _ _ m m2 hx) (by omega) hs.symm) (h1 := by rw [n_i1]; rfl)
            | inr m2 =>
              simp only [nb_s, hx] at hs
              rw [hx] at hq
              replace hq : m2 ≤ m + 7 ^ d := hq
              exact ev_eq (ih (j + 1) m2 (by omega) hs (by omega)) (h1 := by rw [n_i1]; rfl)
    refine ev_aload_0 0 d_hc_numberBehind_0 ?_
    refine ev_aload_1 1 d_hc_numberBehind_1 ?_
    refine gw_callV 2 (100 + 3 * t) [.ref (am (100 + 3 * u))] _ d_hc_numberBehind_2 hZ (kc_hc_312 (k9 := 0) (mc9 := 0) (ms9 := 0)) (hr_of (by omega) (by decide) (by decide) (by decide)) (hT.k0 ht) (hT.g0 ht) rfl (ht_ty_fitsWithoutParts t u hT ht hu) (fun r9 w9 hw => ?_)
    obtain ⟨e1, y, e2, hy⟩ := hw
    subst e1
    subst e2
    refine ev_eq (st' := [.int y]) ?_
    refine ev_ifne 5 11 d_hc_numberBehind_5 (fun c5 => ?_) (fun c5 => ?_)
    · have ha := mo_b1 hy c5
      refine ev_aload_0 11 d_hc_numberBehind_11 ?_
      refine gw_get 12 (100 + 3 * t) 2 d_hc_numberBehind_12 lk_hc_123 (hT.k0 ht) (hT.g0 ht) (.int (B 7 t)) (hT.f2 ht) ?_
      refine ev_aload_1 15 d_hc_numberBehind_15 ?_
      refine gw_get 16 (100 + 3 * u) 2 d_hc_numberBehind_16 lk_hc_123 (hT.k0 hu) (hT.g0 hu) (.int (B 7 u)) (hT.f2 hu) ?_
      refine ev_mmin 19 d_hc_numberBehind_19 mw_hc_316 (by show 1 ≤ d + 1 + 2; omega) (by show 0 + 13 ≤ 40 * (d + 1 + 2); omega) (Nat.le_refl _) (Nat.le_refl _) ?_
      refine ev_topi (nI (ty_sh ct t u)) (sh_mn e7t e7u ct6 cu6) ?_
      refine ev_istore_3 22 d_hc_numberBehind_22 ?_ (hn := by exact Nat.le_of_ble_eq_true rfl)
      refine ev_iload_2 23 d_hc_numberBehind_23 ?_
      refine ev_iconst_1 24 d_hc_numberBehind_24 ?_
      refine ev_iadd 25 d_hc_numberBehind_25 ?_
      refine ev_istore_4 26 d_hc_numberBehind_26 ?_ (hn := by exact Nat.le_of_ble_eq_true rfl)
      refine ev_iconst_0 28 d_hc_numberBehind_28 ?_
      refine ev_istore_5 29 d_hc_numberBehind_29 ?_ (hn := by exact Nat.le_of_ble_eq_true rfl)
      exact ev_eq (L31 (ty_sh ct t u) 0 (n + 1) (by omega) (by rw [nb_r, if_pos ha]) (by rw [Nat.pow_succ] at hn; have : ty_sh ct t u * 7 ^ d ≤ 6 * 7 ^ d := Nat.mul_le_mul_right _ (by omega); have : 1 ≤ 7 ^ d := Nat.one_le_pow _ _ (by decide); omega)) (h1 := by rw [nI_1]; rfl)
    · have ha := mo_b0 hy c5
      refine ev_iload_2 8 d_hc_numberBehind_8 ?_
      refine ev_ineg 9 d_hc_numberBehind_9 ?_
      refine ev_iret 10 d_hc_numberBehind_10 rfl ?_
      exact ⟨rfl, by rw [nb_r, if_neg ha]; rfl⟩

set_option maxHeartbeats 4000000 in
set_option maxRecDepth 100000 in
theorem ht_hc_firstMisfit {l : Launch} {D : va_G} {tl : List (ClassId × FieldType)} {Z : (Nat → Prop) → State → Heap → Prop} {K : List Nat} {am : Nat → Nat} {ks : Nat → ClassId} {N : Nat → Nat} {S : gS} {k : Nat} (t : Nat) (u : Nat) {B : Nat → Nat → Int32} {NT : Nat} {ct dp : Nat → Nat} {pt : Nat → Nat → Nat} (hZ : ev_Zok Z) (hT : TyR K am N S B NT ct pt) (hW : ty_wf B NT ct dp pt) (ht : t < NT) (hu : u < NT) (hk7 : 7 < k) : MT (hc_π l D ks tl Z) (m_hc_firstMisfit k 0 0) 0 0 [.ref (am (100 + 3 * t)), .ref (am (100 + 3 * u))] (gw K am ks N S) (fun r w => w = gw K am ks N S ∧ r = some (.int (nI (nb_v (nb_r B ct pt 5 t u 0))))) := by
  refine mt_of pl_hc rfl (Nat.le_of_ble_eq_true rfl) (ev_eq (lv' := [some (.ref (am (100 + 3 * t))), some (.ref (am (100 + 3 * u))), none]) ?_)
  refine ev_aload_0 0 d_hc_firstMisfit_0 ?_
  refine ev_aload_1 1 d_hc_firstMisfit_1 ?_
  refine ev_iconst_1 2 d_hc_firstMisfit_2 ?_
  refine ev_callS 3 [.ref (am (100 + 3 * t)), .ref (am (100 + 3 * u)), .int 1] [] d_hc_firstMisfit_3 hZ (kc_hc_308 (k9 := 7) (mc9 := 0) (ms9 := 0)) (hr_of hk7 (by decide) (by decide) (by decide)) (ht_hc_numberBehind hZ hT hW 5 t u 0 (hW.2.1 t ht).2.2.2 ht hu (by decide)) (fun r9 w9 hw => ?_)
  obtain ⟨e1, e2⟩ := hw
  subst e1
  subst e2
  refine ev_eq (st' := [.int (nb_y (nb_r B ct pt 5 t u 0))]) ?_
  refine ev_istore_2 6 d_hc_firstMisfit_6 ?_ (hn := by exact Nat.le_of_ble_eq_true rfl)
  refine ev_iload_2 7 d_hc_firstMisfit_7 ?_
  refine ev_ifge 8 16 d_hc_firstMisfit_8 (fun c8 => ?_) (fun c8 => ?_)
  · refine ev_iconst_0 16 d_hc_firstMisfit_16 ?_
    refine ev_iret 17 d_hc_firstMisfit_17 rfl ?_
    have hq := nb_bd hW 5 t u 0 ht hu
    cases hx : nb_r B ct pt 5 t u 0 with
    | inl m =>
      rw [hx] at c8 hq
      replace hq : m ≤ 0 + 7 ^ 5 := hq
      exact absurd (nb_neg (nb_r_l 5 _ _ 0 m hx) (by omega)) (Int32.not_lt.mpr c8)
    | inr m => exact ⟨rfl, rfl⟩
  · refine ev_iload_2 11 d_hc_firstMisfit_11 ?_
    refine ev_ineg 12 d_hc_firstMisfit_12 ?_
    refine ev_goto 13 17 d_hc_firstMisfit_13 ?_
    refine ev_iret 17 d_hc_firstMisfit_17 rfl ?_
    have hq := nb_bd hW 5 t u 0 ht hu
    cases hx : nb_r B ct pt 5 t u 0 with
    | inl m => exact ⟨rfl, by show some (Value.int (-(-(nI m)))) = _; rw [nb_nn]; rfl⟩
    | inr m =>
      rw [hx] at c8 hq
      replace hq : m ≤ 0 + 7 ^ 5 := hq
      exact absurd (nI_pos' (show m + 1 < 2 ^ 31 by omega)) c8

/-- a resource is destroyed -/
def hd_S (S : gS) (hd : Nat → Nat) (x kd : Nat) : gS := gsA (gsA (gsG S x 3 (.ref (hd 0))) 8 kd (S.2.1 8 kd - 1)) 9 kd (S.2.1 9 kd + 1)

set_option maxHeartbeats 4000000 in
set_option maxRecDepth 100000 in
theorem ht_hc_destroy {l : Launch} {D : va_G} {tl : List (ClassId × FieldType)} {Z : (Nat → Prop) → State → Heap → Prop} {K : List Nat} {am : Nat → Nat} {ks : Nat → ClassId} {N : Nat → Nat} {S : gS} {k : Nat} (x : Nat) (hd : Nat → Nat) (hZ9 : ho_Z Z hd) (h0 : hc_w0 K am N S) (hx : x ∈ K) (hg : gk x = 4) (kd : Nat) (hk4 : kd < 4) (hkd : S.1 x 1 = .int (nI kd)) (hx0 : x ≠ 0) : MT (hc_π l D ks tl Z) (m_hc_destroy k 0 0) 0 0 [.ref (am 0), .ref (am x)] (gw K am ks N S) (fun r w => r = none ∧ w = gw K am ks N (hd_S S hd x kd)) := by
  refine mt_of pl_hc rfl (Nat.le_of_ble_eq_true rfl) (ev_eq (lv' := [some (.ref (am 0)), some (.ref (am x))]) ?_)
  refine ev_aload_1 0 d_hc_destroy_0 ?_
  refine ev_gets (v := .ref (hd 0)) 1 d_hc_destroy_1 (fun A s z => hZ9 A s z 0) ls_hc_325 ?_
  refine gw_put 4 x 3 d_hc_destroy_4 lp_hc_242 h0.1.1 hx hg rfl rfl ?_
  refine ev_aload_0 7 d_hc_destroy_7 ?_
  refine gw_get 8 0 13 d_hc_destroy_8 lk_hc_59 (h0.1.2 0 (by decide)) rfl (.ref (am 8)) (Eq.trans (gsG_nj (Or.inl (fun z => hx0 z.symm))) h0.2.2.2.2.2.2.2.2.2.1) ?_
  refine ev_aload_1 11 d_hc_destroy_11 ?_
  refine gw_get 12 x 1 d_hc_destroy_12 lk_hc_257 hx hg (.int (nI kd)) (Eq.trans (gsG_nj (Or.inr (by decide))) hkd) ?_
  refine ev_dup2 15 d_hc_destroy_15 ?_
  refine gw_ild (j := kd) 16 8 d_hc_destroy_16 (h0.1.2 8 (by decide)) rfl (by rw [h0.2.1.2.2.2.2.2.2.2.1]; omega) (by rw [h0.2.1.2.2.2.2.2.2.2.1]; decide) (S.2.1 8 kd) rfl ?_
  refine ev_iconst_1 17 d_hc_destroy_17 ?_
  refine ev_isub 18 d_hc_destroy_18 ?_
  refine gw_ist (j := kd) 19 8 d_hc_destroy_19 h0.1.1 (h0.1.2 8 (by decide)) rfl (by rw [h0.2.1.2.2.2.2.2.2.2.1]; omega) (by rw [h0.2.1.2.2.2.2.2.2.2.1]; decide) ?_
  refine ev_aload_0 20 d_hc_destroy_20 ?_
  refine gw_get 21 0 14 d_hc_destroy_21 lk_hc_62 (h0.1.2 0 (by decide)) rfl (.ref (am 9)) (Eq.trans (gsG_nj (Or.inl (fun z => hx0 z.symm))) h0.2.2.2.2.2.2.2.2.2.2.1) ?_
  refine ev_aload_1 24 d_hc_destroy_24 ?_
  refine gw_get 25 x 1 d_hc_destroy_25 lk_hc_257 hx hg (.int (nI kd)) (Eq.trans (gsG_nj (Or.inr (by decide))) hkd) ?_
  refine ev_dup2 28 d_hc_destroy_28 ?_
  refine gw_ild (j := kd) 29 9 d_hc_destroy_29 (h0.1.2 9 (by decide)) rfl (by rw [h0.2.1.2.2.2.2.2.2.2.2.1]; omega) (by rw [h0.2.1.2.2.2.2.2.2.2.2.1]; decide) (S.2.1 9 kd) (show up2 S.2.1 8 kd (S.2.1 8 kd - 1) 9 kd = S.2.1 9 kd from up2_nj _ _ (Or.inl (by decide))) ?_
  refine ev_iconst_1 30 d_hc_destroy_30 ?_
  refine ev_iadd 31 d_hc_destroy_31 ?_
  refine gw_ist (j := kd) 32 9 d_hc_destroy_32 h0.1.1 (h0.1.2 9 (by decide)) rfl (by rw [h0.2.1.2.2.2.2.2.2.2.2.1]; omega) (by rw [h0.2.1.2.2.2.2.2.2.2.2.1]; decide) ?_
  refine ev_vret 33 d_hc_destroy_33 rfl ?_
  exact ⟨rfl, rfl⟩

set_option maxHeartbeats 4000000 in
set_option maxRecDepth 100000 in
theorem ht_wt_placeAndCount {l : Launch} {D : va_G} {tl : List (ClassId × FieldType)} {Z : (Nat → Prop) → State → Heap → Prop} {K : List Nat} {am : Nat → Nat} {ks : Nat → ClassId} {N : Nat → Nat} {S : gS} {k : Nat} (p : Int32) (c : Int32)  : MT (hc_π l D ks tl Z) (m_wt_placeAndCount k 0 0) 0 0 [.int p, .int c] (gw K am ks N S) (fun r w => w = gw K am ks N S ∧ r = some (.long ((c.toInt64 <<< ((16 : Int32).toInt64 &&& 63)) ||| p.toInt64))) := by
  refine mt_of pl_wt rfl (Nat.le_of_ble_eq_true rfl) (ev_eq (lv' := [some (.int p), some (.int c)]) ?_)
  refine ev_iload_1 0 d_wt_placeAndCount_0 ?_
  refine ev_i2l 1 d_wt_placeAndCount_1 ?_
  refine ev_bipush (16) 2 d_wt_placeAndCount_2 (by decide) ?_
  refine ev_lshl 4 d_wt_placeAndCount_4 ?_
  refine ev_iload_0 5 d_wt_placeAndCount_5 ?_
  refine ev_i2l 6 d_wt_placeAndCount_6 ?_
  refine ev_lor 7 d_wt_placeAndCount_7 ?_
  refine ev_lret 8 d_wt_placeAndCount_8 rfl ?_
  exact ⟨rfl, rfl⟩

def el_B (B : Nat → Nat → Int32) (i j : Nat) : Nat → Nat → Int32 := va_up B 16 (bk_u (B 16) (B 18) (17 * i) j)
theorem el_ne {B : Nat → Nat → Int32} {i j f : Nat} (h : f ≠ 16) : el_B B i j f = B f := va_up_ne B _ h
theorem el_16 {B : Nat → Nat → Int32} {i j : Nat} : el_B B i j 16 = bk_u (B 16) (B 18) (17 * i) j := va_up_self B 16 _
theorem bk_hi {u ow : Nat → Int32} {b x : Nat} : ∀ n, b + n < x → bk_u u ow b n x = u x := by
  intro n
  induction n with
  | zero => intro _; rfl
  | succ n ih => intro h; rw [bk_u, upd_ne (by omega)]; exact ih (by omega)
theorem hof2 {B : Nat → Nat → Int32} {x : Nat} (h : hof B fr0 x = 2) : ¬ B 16 x = 0 ∧ B 18 x = 0 := by
  unfold hof fr0 at h
  split at h
  · cases h
  split at h
  · cases h
  split at h
  · rename_i a _ c; exact ⟨a, c⟩
  · split at h <;> cases h
theorem hof_n2 {B : Nat → Nat → Int32} {x : Nat} (h : ¬ hof B fr0 x = 2) (ht : B 20 x = 0) (hu : ¬ B 16 x = 0) : ¬ B 18 x = 0 := fun z => h (by
  unfold hof
  rw [if_neg hu, if_neg (fun q => q ht), if_pos z])

set_option maxHeartbeats 4000000 in
set_option maxRecDepth 100000 in
theorem ht_in_endLoansToIt {l : Launch} {D : va_G} {tl : List (ClassId × FieldType)} {Z : (Nat → Prop) → State → Heap → Prop} {K : List Nat} {am : Nat → Nat} {ks : Nat → ClassId} {N : Nat → Nat} {S : gS} {k : Nat} (i : Nat) {B : Nat → Nat → Int32} {ni : Nat} (hd : Nat → Nat) (hZ : ev_Zok Z) (hZ9 : ho_Z Z hd) (hDi : ho_D hd) (hN : va_nd K = true) (hn6 : ni ≤ 6) (hi6 : i < 6) (hi : i < ni) (hin : ∀ j, j < ni → in_ok K am N S j) (hT0 : ∀ x, x < 102 → B 20 x = 0) (hA0 : HA am hd S B fr0 (lnB B) ni) (hk0 : 0 < k) : MT (hc_π l D ks tl Z) (m_in_endLoansToIt k 0 0) 0 0 [.ref (am (200 + 20 * i))] (gw K am ks N S) (fun r w => r = none ∧ ∃ S1, w = gw K am ks N S1 ∧ hkp S S1 ∧ HA am hd S1 (el_B B i 16) fr0 (lnB (el_B B i 16)) ni) := by
  refine mt_of pl_in rfl (Nat.le_of_ble_eq_true rfl) (ev_eq (lv' := [some (.ref (am (200 + 20 * i))), none]) ?_)
  have L2 : ∀ (m j : Nat) (S1 : gS), 16 - j < m → j ≤ 16 → hkp S S1 → HA am hd S1 (el_B B i j) fr0 (lnB (el_B B i j)) ni → EV (hc_π l D ks tl Z) (m_in_endLoansToIt k 0 0) (ev_E (hc_π l D ks tl Z) 0 0 (fun r w => r = none ∧ ∃ S1, w = gw K am ks N S1 ∧ hkp S S1 ∧ HA am hd S1 (el_B B i 16) fr0 (lnB (el_B B i 16)) ni)) 0 0 2 [some (.ref (am (200 + 20 * i))), some (.int (nI j))] [] (gw K am ks N S1) := by
    intro m
    induction m with
    | zero => intro j S1 h; omega
    | succ m ih =>
      intro j S1 hm hj hk1 hA
      have ok := (hin i hi).hk hk1
      refine ev_iload_1 2 d_in_endLoansToIt_2 ?_
      refine ev_bipush (16) 3 d_in_endLoansToIt_3 (by decide) ?_
      refine ev_icmpge 5 38 d_in_endLoansToIt_5 (fun c5 => ?_) (fun c5 => ?_)
      · have h5 := n_le 16 j c5
        obtain rfl : j = 16 := by omega
        refine ev_vret 38 d_in_endLoansToIt_38 rfl ?_
        exact ⟨rfl, S1, rfl, hk1, hA⟩
      · have h5 := n_nle 16 j c5
        refine ev_aload_0 8 d_in_endLoansToIt_8 ?_
        refine gw_get 9 (200 + 20 * i) 1 d_in_endLoansToIt_9 lk_in_17 ok.1 (gk_in i hi6).1 (.ref (am (202 + 20 * i))) ok.2.2.2.2.1 ?_
        refine ev_iload_1 12 d_in_endLoansToIt_12 ?_
        refine gw_qld (j := j) 13 (202 + 20 * i) d_in_endLoansToIt_13 ok.2.2.1 (gk_in i hi6).2.2.1 (by rw [ok.2.2.2.2.2.2.1]; omega) (by rw [ok.2.2.2.2.2.2.1]; decide) _ ((ok.2.2.2.2.2.2.2 j (by omega)).2) ?_
        refine gw_get 14 (203 + 20 * i + j) 3 d_in_endLoansToIt_14 lk_in_33 (ok.2.2.2.2.2.2.2 j (by omega)).1 ((gk_in i hi6).2.2.2 j (by omega)) (va_rf (some (hd (hof (el_B B i j) fr0 (17 * i + j + 1))))) (hA i j hi (by omega)).1 ?_
        refine ev_gets (v := va_rf (some (hd 2))) 17 d_in_endLoansToIt_17 (fun A s z => hZ9 A s z 2) ls_in_42 ?_
        refine ev_acmpne 20 32 d_in_endLoansToIt_20 (fun c20 => ?_) (fun c20 => ?_)
        · refine ev_iinc_1 32 d_in_endLoansToIt_32 ?_ (hn := by exact Nat.le_of_ble_eq_true rfl)
          refine ev_goto 35 2 d_in_endLoansToIt_35 ?_
          refine ev_eq (ih (j + 1) S1 (by omega) (by omega) hk1 (hA.z (fun x => ?_) (fun f hf => ?_))) (h1 := by rw [n_i1])
          · by_cases e : x = 17 * i + (j + 1)
            · subst e
              rw [el_16, el_16, bk_u, upd_eq]
              by_cases u : bk_u (B 16) (B 18) (17 * i) j (17 * i + (j + 1)) = 0
              · rw [if_neg (fun z => z.1 u)]; exact ⟨fun _ => u, fun _ => rfl⟩
              · have o := hof_n2 (B := el_B B i j) (x := 17 * i + j + 1) (fun z => c20 (by rw [z])) (by rw [el_ne (by decide)]; exact hT0 _ (by omega)) (by rw [el_16]; exact u)
                rw [el_ne (by decide)] at o
                rw [if_pos ⟨u, o⟩]; exact ⟨fun z => absurd z (by decide), fun z => absurd z u⟩
            · rw [el_16, el_16, bk_u, upd_ne e]
          · rw [el_ne (by omega), el_ne (by omega)]
        · have h2 := hDi (hof (el_B B i j) fr0 (17 * i + j + 1)) 2 (hof_lt _ _ _) (by decide) (Option.some.inj c20)
          obtain ⟨hu, ho⟩ := hof2 h2
          obtain ⟨-, -, hl0⟩ := (hA i j hi (by omega)).2.2 hu
          obtain ⟨i', h', hi', hh', hl, hl4, -⟩ := hl0 ho
          refine ev_aload_0 23 d_in_endLoansToIt_23 ?_
          refine gw_get 24 (200 + 20 * i) 1 d_in_endLoansToIt_24 lk_in_17 ok.1 (gk_in i hi6).1 (.ref (am (202 + 20 * i))) ok.2.2.2.2.1 ?_
          refine ev_iload_1 27 d_in_endLoansToIt_27 ?_
          refine gw_qld (j := j) 28 (202 + 20 * i) d_in_endLoansToIt_28 ok.2.2.1 (gk_in i hi6).2.2.1 (by rw [ok.2.2.2.2.2.2.1]; omega) (by rw [ok.2.2.2.2.2.2.1]; decide) _ ((ok.2.2.2.2.2.2.2 j (by omega)).2) ?_
          refine gw_callV 29 (203 + 20 * i + j) [] _ d_in_endLoansToIt_29 hZ (kc_in_48 (k9 := 0) (mc9 := 0) (ms9 := 0)) (hr_of hk0 (by decide) (by decide) (by decide)) (ok.2.2.2.2.2.2.2 j (by omega)).1 ((gk_in i hi6).2.2.2 j (by omega)) rfl (ht_ha_endLoanR (203 + 20 * i + j) hd hZ9 hN (ok.2.2.2.2.2.2.2 j (by omega)).1 ((gk_in i hi6).2.2.2 j (by omega)) (203 + 20 * i' + h') ((hin i' hi').2.2.2.2.2.2.2 h' hh').1 ((gk_in i' (by omega)).2.2.2 h' hh') hl4 (lnB (el_B B i j) (17 * i' + h' + 1)) (hA i' h' hi' hh').2.1) (fun r9 w9 hw => ?_)
          obtain ⟨e1, e2⟩ := hw
          subst e1
          subst e2
          refine ev_eq (st' := []) ?_
          refine ev_iinc_1 32 d_in_endLoansToIt_32 ?_ (hn := by exact Nat.le_of_ble_eq_true rfl)
          refine ev_goto 35 2 d_in_endLoansToIt_35 ?_
          refine ev_eq (ih (j + 1) _ (by omega) (by omega) ((hk1.up ((gk_in i hi6).2.2.2 j (by omega)) (Or.inr rfl)).up ((gk_in i' (by omega)).2.2.2 h' hh') (Or.inl rfl)) (hA.el (by omega) hi (by omega) hi' hh' hu ho hl (fun x hx => ?_) ?_ (fun f hf => ?_))) (h1 := by rw [n_i1])
          · rw [el_16, el_16, bk_u, upd_ne (by omega)]
          · rw [el_16, show 17 * i + j + 1 = 17 * i + (j + 1) by omega, bk_u, upd_eq, if_neg]
            rw [el_ne (by decide)] at ho
            exact fun z => z.2 ho
          · rw [el_ne (by omega), el_ne (by omega)]
  refine ev_iconst_0 0 d_in_endLoansToIt_0 ?_
  refine ev_istore_1 1 d_in_endLoansToIt_1 ?_ (hn := by exact Nat.le_of_ble_eq_true rfl)
  exact ev_eq (L2 17 0 S (by omega) (by omega) (hkp.rf S) (by rw [show el_B B i 0 = B from mo_upid B 16]; exact hA0))

theorem h_un_3 : ∀ {o : Nat}, o < 5 → (if (if (if o = 2 then 0 else o) = 4 then 0 else (if o = 2 then 0 else o)) = 3 then 1 else (if (if o = 2 then 0 else o) = 4 then 0 else (if o = 2 then 0 else o))) = h_un o := by
  intro o h
  obtain rfl | rfl | rfl | rfl | rfl : o = 0 ∨ o = 1 ∨ o = 2 ∨ o = 3 ∨ o = 4 := by omega
  all_goals decide

set_option maxHeartbeats 4000000 in
set_option maxRecDepth 100000 in
theorem ht_in_undoLoansAndPassing {l : Launch} {D : va_G} {tl : List (ClassId × FieldType)} {Z : (Nat → Prop) → State → Heap → Prop} {K : List Nat} {am : Nat → Nat} {ks : Nat → ClassId} {N : Nat → Nat} {S : gS} {k : Nat} (i : Nat) (hd : Nat → Nat) (hZ : ho_Z Z hd) (hDi : ho_D hd) (hi : i < 6) (ok : in_ok K am N S i) (ho : Nat → Nat) (hho : ∀ h, h < 16 → ho h < 5 ∧ S.1 (203 + 20 * i + h) 3 = .ref (hd (ho h))) (hZe : ev_Zok Z) (hN : va_nd K = true) (hk0 : 0 < k) : MT (hc_π l D ks tl Z) (m_in_undoLoansAndPassing k 0 0) 0 0 [.ref (am (200 + 20 * i))] (gw K am ks N S) (fun r w => r = none ∧ ∃ S1, w = gw K am ks N S1 ∧ hkp S S1 ∧ (∀ q p, (∀ h, h < 16 → q ≠ 203 + 20 * i + h) → S1.1 q p = S.1 q p) ∧ ∀ h, h < 16 → S1.1 (203 + 20 * i + h) 3 = .ref (hd (h_un (ho h))) ∧ S1.1 (203 + 20 * i + h) 2 = .int 0) := by
  refine mt_of pl_in rfl (Nat.le_of_ble_eq_true rfl) (ev_eq (lv' := [some (.ref (am (200 + 20 * i))), none]) ?_)
  refine ev_aload_0 0 d_in_undoLoansAndPassing_0 ?_
  refine ev_gets (v := .ref (hd 2)) 1 d_in_undoLoansAndPassing_1 (fun A s z => hZ A s z 2) ls_in_42 ?_
  refine ev_gets (v := .ref (hd 0)) 4 d_in_undoLoansAndPassing_4 (fun A s z => hZ A s z 0) ls_in_45 ?_
  refine gw_callV 7 (200 + 20 * i) [.ref (hd 2), .ref (hd 0)] _ d_in_undoLoansAndPassing_7 hZe (kc_in_51 (k9 := 0) (mc9 := 0) (ms9 := 0)) (hr_of hk0 (by decide) (by decide) (by decide)) ok.1 (gk_in i hi).1 rfl (ht_in_changeHoldings hd i 2 0 hZ hDi hi ok (ho) hho hN (by decide)) (fun r9 w9 hw => ?_)
  obtain ⟨e1, e2⟩ := hw
  subst e1
  subst e2
  refine ev_eq (st' := []) ?_
  have k1 : hkp S (hh_ch S hd (ho) i 2 0 16) := hkp.tr (hkp.rf S) (hh_ch_k hi 16 (by omega))
  have o1 : ∀ q p, (∀ h, h < 16 → q ≠ 203 + 20 * i + h) → (hh_ch S hd (ho) i 2 0 16).1 q p = S.1 q p := fun q p hq => (hh_ch_1 S hd (ho) i 2 0 16 (Or.inr hq)).trans (rfl)
  have q1 : ∀ h, h < 16 → (if (ho) h = 2 then 0 else (ho) h) < 5 ∧ (hh_ch S hd (ho) i 2 0 16).1 (203 + 20 * i + h) 3 = .ref (hd (if (ho) h = 2 then 0 else (ho) h)) := fun h hh => ⟨by have := (hho h hh).1; split <;> omega, hh_ch_at S hd (ho) i 2 0 (hho h hh).2 16 hh⟩
  generalize hh_ch S hd (ho) i 2 0 16 = S1 at k1 o1 q1 ⊢
  refine ev_aload_0 10 d_in_undoLoansAndPassing_10 ?_
  refine ev_gets (v := .ref (hd 4)) 11 d_in_undoLoansAndPassing_11 (fun A s z => hZ A s z 4) ls_in_55 ?_
  refine ev_gets (v := .ref (hd 0)) 14 d_in_undoLoansAndPassing_14 (fun A s z => hZ A s z 0) ls_in_45 ?_
  refine gw_callV 17 (200 + 20 * i) [.ref (hd 4), .ref (hd 0)] _ d_in_undoLoansAndPassing_17 hZe (kc_in_51 (k9 := 0) (mc9 := 0) (ms9 := 0)) (hr_of hk0 (by decide) (by decide) (by decide)) ok.1 (gk_in i hi).1 rfl (ht_in_changeHoldings hd i 4 0 hZ hDi hi (ok.hk k1) (fun h => if ho h = 2 then 0 else ho h) q1 hN (by decide)) (fun r9 w9 hw => ?_)
  obtain ⟨e1, e2⟩ := hw
  subst e1
  subst e2
  refine ev_eq (st' := []) ?_
  have k2 : hkp S (hh_ch S1 hd (fun h => if ho h = 2 then 0 else ho h) i 4 0 16) := hkp.tr k1 (hh_ch_k hi 16 (by omega))
  have o2 : ∀ q p, (∀ h, h < 16 → q ≠ 203 + 20 * i + h) → (hh_ch S1 hd (fun h => if ho h = 2 then 0 else ho h) i 4 0 16).1 q p = S.1 q p := fun q p hq => (hh_ch_1 S1 hd (fun h => if ho h = 2 then 0 else ho h) i 4 0 16 (Or.inr hq)).trans (o1 q p hq)
  have q2 : ∀ h, h < 16 → (if (fun h => if ho h = 2 then 0 else ho h) h = 4 then 0 else (fun h => if ho h = 2 then 0 else ho h) h) < 5 ∧ (hh_ch S1 hd (fun h => if ho h = 2 then 0 else ho h) i 4 0 16).1 (203 + 20 * i + h) 3 = .ref (hd (if (fun h => if ho h = 2 then 0 else ho h) h = 4 then 0 else (fun h => if ho h = 2 then 0 else ho h) h)) := fun h hh => ⟨by have := (q1 h hh).1; split <;> omega, hh_ch_at S1 hd (fun h => if ho h = 2 then 0 else ho h) i 4 0 (q1 h hh).2 16 hh⟩
  generalize hh_ch S1 hd (fun h => if ho h = 2 then 0 else ho h) i 4 0 16 = S2 at k2 o2 q2 ⊢
  refine ev_aload_0 20 d_in_undoLoansAndPassing_20 ?_
  refine ev_gets (v := .ref (hd 3)) 21 d_in_undoLoansAndPassing_21 (fun A s z => hZ A s z 3) ls_in_58 ?_
  refine ev_gets (v := .ref (hd 1)) 24 d_in_undoLoansAndPassing_24 (fun A s z => hZ A s z 1) ls_in_37 ?_
  refine gw_callV 27 (200 + 20 * i) [.ref (hd 3), .ref (hd 1)] _ d_in_undoLoansAndPassing_27 hZe (kc_in_51 (k9 := 0) (mc9 := 0) (ms9 := 0)) (hr_of hk0 (by decide) (by decide) (by decide)) ok.1 (gk_in i hi).1 rfl (ht_in_changeHoldings hd i 3 1 hZ hDi hi (ok.hk k2) (fun h => if (if ho h = 2 then 0 else ho h) = 4 then 0 else (if ho h = 2 then 0 else ho h)) q2 hN (by decide)) (fun r9 w9 hw => ?_)
  obtain ⟨e1, e2⟩ := hw
  subst e1
  subst e2
  refine ev_eq (st' := []) ?_
  have k3 : hkp S (hh_ch S2 hd (fun h => if (if ho h = 2 then 0 else ho h) = 4 then 0 else (if ho h = 2 then 0 else ho h)) i 3 1 16) := hkp.tr k2 (hh_ch_k hi 16 (by omega))
  have o3 : ∀ q p, (∀ h, h < 16 → q ≠ 203 + 20 * i + h) → (hh_ch S2 hd (fun h => if (if ho h = 2 then 0 else ho h) = 4 then 0 else (if ho h = 2 then 0 else ho h)) i 3 1 16).1 q p = S.1 q p := fun q p hq => (hh_ch_1 S2 hd (fun h => if (if ho h = 2 then 0 else ho h) = 4 then 0 else (if ho h = 2 then 0 else ho h)) i 3 1 16 (Or.inr hq)).trans (o2 q p hq)
  have q3 : ∀ h, h < 16 → (if (fun h => if (if ho h = 2 then 0 else ho h) = 4 then 0 else (if ho h = 2 then 0 else ho h)) h = 3 then 1 else (fun h => if (if ho h = 2 then 0 else ho h) = 4 then 0 else (if ho h = 2 then 0 else ho h)) h) < 5 ∧ (hh_ch S2 hd (fun h => if (if ho h = 2 then 0 else ho h) = 4 then 0 else (if ho h = 2 then 0 else ho h)) i 3 1 16).1 (203 + 20 * i + h) 3 = .ref (hd (if (fun h => if (if ho h = 2 then 0 else ho h) = 4 then 0 else (if ho h = 2 then 0 else ho h)) h = 3 then 1 else (fun h => if (if ho h = 2 then 0 else ho h) = 4 then 0 else (if ho h = 2 then 0 else ho h)) h)) := fun h hh => ⟨by have := (q2 h hh).1; split <;> omega, hh_ch_at S2 hd (fun h => if (if ho h = 2 then 0 else ho h) = 4 then 0 else (if ho h = 2 then 0 else ho h)) i 3 1 (q2 h hh).2 16 hh⟩
  generalize hh_ch S2 hd (fun h => if (if ho h = 2 then 0 else ho h) = 4 then 0 else (if ho h = 2 then 0 else ho h)) i 3 1 16 = S3 at k3 o3 q3 ⊢
  refine ev_iconst_0 30 d_in_undoLoansAndPassing_30 ?_
  refine ev_istore_1 31 d_in_undoLoansAndPassing_31 ?_ (hn := by exact Nat.le_of_ble_eq_true rfl)
  have L32 : ∀ m j : Nat, 16 - j < m → j ≤ 16 → EV (hc_π l D ks tl Z) (m_in_undoLoansAndPassing k 0 0) (ev_E (hc_π l D ks tl Z) 0 0 (fun r w => r = none ∧ ∃ S1, w = gw K am ks N S1 ∧ hkp S S1 ∧ (∀ q p, (∀ h, h < 16 → q ≠ 203 + 20 * i + h) → S1.1 q p = S.1 q p) ∧ ∀ h, h < 16 → S1.1 (203 + 20 * i + h) 3 = .ref (hd (h_un (ho h))) ∧ S1.1 (203 + 20 * i + h) 2 = .int 0)) 0 0 32 [some (.ref (am (200 + 20 * i))), some (.int (nI j))] [] (gw K am ks N (hh_lz S3 i j)) := by
    intro m
    induction m with
    | zero => intro j h; omega
    | succ m ih =>
      intro j hm hj
      have okj := ok.hk (k3.tr (hh_lz_k hi j hj))
      refine ev_iload_1 32 d_in_undoLoansAndPassing_32 ?_
      refine ev_bipush (16) 33 d_in_undoLoansAndPassing_33 (by decide) ?_
      refine ev_icmpge 35 54 d_in_undoLoansAndPassing_35 (fun c35 => ?_) (fun c35 => ?_)
      · have h5 := n_le 16 j c35
        obtain rfl : j = 16 := by omega
        refine ev_vret 54 d_in_undoLoansAndPassing_54 rfl ?_
        refine ⟨rfl, _, rfl, k3.tr (hh_lz_k hi 16 (by omega)), fun q p hq => (hh_lz_1 16 (Or.inr hq)).trans (o3 q p hq), fun h hh => ⟨?_, hh_lz_at 16 hh⟩⟩
        rw [hh_lz_1 16 (Or.inl (by decide)), (q3 h hh).2]
        exact congrArg (fun z => Value.ref (hd z)) (h_un_3 (hho h hh).1)
      · have h5 := n_nle 16 j c35
        refine ev_aload_0 38 d_in_undoLoansAndPassing_38 ?_
        refine gw_get 39 (200 + 20 * i) 1 d_in_undoLoansAndPassing_39 lk_in_17 okj.1 (gk_in i hi).1 (.ref (am (202 + 20 * i))) okj.2.2.2.2.1 ?_
        refine ev_iload_1 42 d_in_undoLoansAndPassing_42 ?_
        refine gw_qld (j := j) 43 (202 + 20 * i) d_in_undoLoansAndPassing_43 okj.2.2.1 (gk_in i hi).2.2.1 (by rw [okj.2.2.2.2.2.2.1]; omega) (by rw [okj.2.2.2.2.2.2.1]; decide) _ ((okj.2.2.2.2.2.2.2 j (by omega)).2) ?_
        refine ev_iconst_0 44 d_in_undoLoansAndPassing_44 ?_
        refine gw_put 45 (203 + 20 * i + j) 2 d_in_undoLoansAndPassing_45 lp_in_61 hN (okj.2.2.2.2.2.2.2 j (by omega)).1 ((gk_in i hi).2.2.2 j (by omega)) (vp_nar_int _) rfl ?_
        refine ev_iinc_1 48 d_in_undoLoansAndPassing_48 ?_ (hn := by exact Nat.le_of_ble_eq_true rfl)
        refine ev_goto 51 32 d_in_undoLoansAndPassing_51 ?_
        exact ev_eq (ih (j + 1) (by omega) (by omega)) (h1 := by rw [n_i1])
  exact ev_eq (L32 17 0 (by omega) (by omega))
