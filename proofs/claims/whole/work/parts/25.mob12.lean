/-- is there a borrow anywhere in a type -/
def lb_s (f : Nat → Bool) (pt : Nat → Nat → Nat) (t : Nat) : Nat → Nat → Bool
  | 0, _ => false
  | r + 1, k => if f (pt t k) = true then true else lb_s f pt t r (k + 1)
def lb_r (B : Nat → Nat → Int32) (ct : Nat → Nat) (pt : Nat → Nat → Nat) : Nat → Nat → Bool
  | 0, _ => false
  | d + 1, t => if B 2 t = 12 then true else lb_s (lb_r B ct pt d) pt t (ct t) 0

set_option maxHeartbeats 4000000 in
set_option maxRecDepth 100000 in
theorem mt_lends {l : Launch} {D : va_G} {tl : List (ClassId × FieldType)} {Z : (Nat → Prop) → State → Heap → Prop} {kI kZ : ClassId} {am : Nat → Nat} {F : Nat → Int32} {B : Nat → Nat → Int32} (hZ : ev_Zok Z) (tt : Nat) (NT : Nat) (ct dp : Nat → Nat) (pt : Nat → Nat → Nat) (hW : ty_wf B NT ct dp pt) (htt : tt < NT) : MT (mo_π l D cl_A kI kZ tl Z) m_lends 0 0 [.ref (am 60), .int (nI tt)] (mo_W mo_ci am kI kZ F B) (mo_qi am kI kZ (fun x F1 B1 => mo_bl x (lb_r B ct pt 5 tt = true) ∧ (∃ w, F1 = upd F 36 w) ∧ mo_sw 0 B B1)) := by
  refine mt_of mo_pl rfl (Nat.le_of_ble_eq_true rfl) (ev_eq (lv' := [some (.ref (am 60)), some (.int (nI tt)), none, none]) ?_)
  have FIN : ∀ (B2 : Nat → Nat → Int32) (o2 o3 : Option Value), mo_sw 0 B B2 → lb_r B ct pt 5 tt = false → EV (mo_π l D cl_A kI kZ tl Z) m_lends (ev_E (mo_π l D cl_A kI kZ tl Z) 0 0 (mo_qi am kI kZ (fun x F1 B1 => mo_bl x (lb_r B ct pt 5 tt = true) ∧ (∃ w, F1 = upd F 36 w) ∧ mo_sw 0 B B1))) 0 0 15 [some (.ref (am 60)), some (.int (nI tt)), o2, o3] [] (mo_W mo_ci am kI kZ (upd F 36 (nI (0))) B2) := by
    intro B2 o2 o3 hs hr
    refine ev_aload_0 15 d_mo_lends_15 ?_
    refine mo_geti 16 36 d_mo_lends_16 lk_181 ?_
    refine ev_ifle 19 107 d_mo_lends_19 (fun c19 => ?_) (fun c19 => ?_)
    · refine ev_iconst_0 107 d_mo_lends_107 ?_
      refine ev_zret 108 d_mo_lends_108 rfl ?_ ?_
      · rfl
      exact ⟨_, _, _, rfl, rfl, Or.inr ⟨rfl, by rw [hr]; decide⟩, ⟨_, rfl⟩, hs⟩
    · exact absurd (show nI 0 ≤ 0 by decide) c19
  have PR : ∀ (d t h : Nat) (Bc : Nat → Nat → Int32) (o2 o3 : Option Value), dp t ≤ d → t < NT → h + 5 * d ≤ 50 → mo_sw 0 B Bc → Bc 37 h = nI t → (match lb_r B ct pt d t with | true => lb_r B ct pt 5 tt = true | false => ∀ (B2 : Nat → Nat → Int32) (q2 q3 : Option Value), mo_sw h Bc B2 → EV (mo_π l D cl_A kI kZ tl Z) m_lends (ev_E (mo_π l D cl_A kI kZ tl Z) 0 0 (mo_qi am kI kZ (fun x F1 B1 => mo_bl x (lb_r B ct pt 5 tt = true) ∧ (∃ w, F1 = upd F 36 w) ∧ mo_sw 0 B B1))) 0 0 15 [some (.ref (am 60)), some (.int (nI tt)), q2, q3] [] (mo_W mo_ci am kI kZ (upd F 36 (nI (h))) B2)) → EV (mo_π l D cl_A kI kZ tl Z) m_lends (ev_E (mo_π l D cl_A kI kZ tl Z) 0 0 (mo_qi am kI kZ (fun x F1 B1 => mo_bl x (lb_r B ct pt 5 tt = true) ∧ (∃ w, F1 = upd F 36 w) ∧ mo_sw 0 B B1))) 0 0 15 [some (.ref (am 60)), some (.int (nI tt)), o2, o3] [] (mo_W mo_ci am kI kZ (upd F 36 (nI (h + 1))) Bc) := by
    intro d
    induction d with
    | zero => intro t h Bc o2 o3 hd ht; exact absurd (hW.2.1 t ht).2.2.1 (by omega)
    | succ d ihd =>
      intro t h Bc o2 o3 hd ht hh hB hT hK
      have hc7 : Bc 7 = B 7 := hB.1 7 (by omega)
      have hc8 : Bc 8 = B 8 := hB.1 8 (by omega)
      have hc2 : Bc 2 = B 2 := hB.1 2 (by omega)
      have hT32 := hW.1
      obtain ⟨ht1, ht2, ht3, ht4⟩ := hW.2.1 t ht
      have SB : ∀ (r k : Nat) (B1 : Nat → Nat → Int32) (o2 o3 : Option Value), r + k = ct t → mo_sw h Bc B1 → (∀ j, j < r → B1 37 (h + j) = nI (pt t (ct t - 1 - j))) → (match lb_s (lb_r B ct pt d) pt t r k with | true => lb_r B ct pt 5 tt = true | false => ∀ (B2 : Nat → Nat → Int32) (q2 q3 : Option Value), mo_sw h Bc B2 → EV (mo_π l D cl_A kI kZ tl Z) m_lends (ev_E (mo_π l D cl_A kI kZ tl Z) 0 0 (mo_qi am kI kZ (fun x F1 B1 => mo_bl x (lb_r B ct pt 5 tt = true) ∧ (∃ w, F1 = upd F 36 w) ∧ mo_sw 0 B B1))) 0 0 15 [some (.ref (am 60)), some (.int (nI tt)), q2, q3] [] (mo_W mo_ci am kI kZ (upd F 36 (nI (h))) B2)) → EV (mo_π l D cl_A kI kZ tl Z) m_lends (ev_E (mo_π l D cl_A kI kZ tl Z) 0 0 (mo_qi am kI kZ (fun x F1 B1 => mo_bl x (lb_r B ct pt 5 tt = true) ∧ (∃ w, F1 = upd F 36 w) ∧ mo_sw 0 B B1))) 0 0 15 [some (.ref (am 60)), some (.int (nI tt)), o2, o3] [] (mo_W mo_ci am kI kZ (upd F 36 (nI (h + r))) B1) := by
        intro r
        induction r with
        | zero =>
          intro k B1 o2 o3 hr hs hj hk9
          exact hk9 B1 o2 o3 hs
        | succ r ihr =>
          intro k B1 o2 o3 hr hs hj hk9
          obtain ⟨p1, p2, p3⟩ := hW.2.2 t k ht (by omega)
          have hjr := hj r (by omega)
          rw [show ct t - 1 - r = k by omega] at hjr
          refine ihd (pt t k) (h + r) B1 o2 o3 (by omega) p2 (by omega) (hB.tr (hs.le (Nat.zero_le _))) hjr ?_
          rw [lb_s] at hk9
          cases e : lb_r B ct pt d (pt t k) with
          | true => rw [e] at hk9; exact hk9
          | false =>
            rw [e] at hk9
            intro B2 q2 q3 hs2
            refine ihr (k + 1) B2 q2 q3 (by omega) (hs.tr (hs2.le (by omega))) (fun j hjj => ?_) hk9
            obtain ⟨a1, -⟩ := hs2.2 (h + j) (by omega)
            rw [a1]
            exact hj j (by omega)
      have PU : ¬ B 2 t = 12 → ∀ (r : Nat) (B1 : Nat → Nat → Int32), r ≤ ct t → mo_sw h Bc B1 → (∀ j, j < ct t - r → B1 37 (h + j) = nI (pt t (ct t - 1 - j))) → EV (mo_π l D cl_A kI kZ tl Z) m_lends (ev_E (mo_π l D cl_A kI kZ tl Z) 0 0 (mo_qi am kI kZ (fun x F1 B1 => mo_bl x (lb_r B ct pt 5 tt = true) ∧ (∃ w, F1 = upd F 36 w) ∧ mo_sw 0 B B1))) 0 0 64 [some (.ref (am 60)), some (.int (nI tt)), some (.int (nI t)), some (.int (nI r - 1))] [] (mo_W mo_ci am kI kZ (upd F 36 (nI (h + (ct t - r)))) B1) := by
        intro hal r
        induction r with
        | zero =>
          intro B1 hr hs hj
          refine ev_iload_3 64 d_mo_lends_64 ?_
          refine ev_iflt 65 104 d_mo_lends_65 (fun c65 => ?_) (fun c65 => ?_)
          · refine ev_goto 104 15 d_mo_lends_104 ?_
            refine SB (ct t) 0 B1 _ _ (by omega) hs (fun j hjj => hj j (by omega)) ?_
            rw [lb_r, if_neg hal] at hK
            exact hK
          · exact absurd (by decide) c65
        | succ r ih =>
          intro B1 hr hs hj
          obtain ⟨p1, p2, p3⟩ := hW.2.2 t r ht (by omega)
          have h8 : B1 8 = B 8 := (hs.1 8 (by omega)).trans hc8
          rw [nI_pred]
          refine ev_iload_3 64 d_mo_lends_64 ?_
          refine ev_iflt 65 104 d_mo_lends_65 (fun c65 => ?_) (fun c65 => ?_)
          · exact absurd c65 (nI_pos (by omega))
          · refine ev_aload_0 68 d_mo_lends_68 ?_
            refine ev_aload_0 69 d_mo_lends_69 ?_
            refine mo_getr 70 6 8 d_mo_lends_70 lk_28 ?_
            refine ev_bipush (6) 73 d_mo_lends_73 (by decide) ?_
            refine ev_iload_2 75 d_mo_lends_75 ?_
            refine ev_imul 76 d_mo_lends_76 ?_
            refine ev_iload_3 77 d_mo_lends_77 ?_
            refine ev_iadd 78 d_mo_lends_78 ?_
            refine ev_topi (nI (6 * t + r)) (by rw [n_6, pk_mul, nI_add]) ?_
            refine mo_aldn (j := 6 * t + r) 79 6 8 d_mo_lends_79 (by show 6 * t + r < 192; omega) ?_
            refine ev_topi (nI (pt t r)) (by rw [h8]; exact p1) ?_
            refine ev_aload_0 80 d_mo_lends_80 ?_
            refine mo_getr 81 6 8 d_mo_lends_81 lk_28 ?_
            refine ev_bipush (6) 84 d_mo_lends_84 (by decide) ?_
            refine ev_iload_2 86 d_mo_lends_86 ?_
            refine ev_imul 87 d_mo_lends_87 ?_
            refine ev_iload_3 88 d_mo_lends_88 ?_
            refine ev_iadd 89 d_mo_lends_89 ?_
            refine ev_topi (nI (6 * t + r)) (by rw [n_6, pk_mul, nI_add]) ?_
            refine mo_aldn (j := 6 * t + r) 90 6 8 d_mo_lends_90 (by show 6 * t + r < 192; omega) ?_
            refine ev_topi (nI (pt t r)) (by rw [h8]; exact p1) ?_
            refine ev_iconst_1 91 d_mo_lends_91 ?_
            refine ev_iconst_0 92 d_mo_lends_92 ?_
            refine ev_iconst_0 93 d_mo_lends_93 ?_
            refine ev_iconst_0 94 d_mo_lends_94 ?_
            refine mo_callv6 95 d_mo_lends_95 hZ kc_184 (mt_await hZ _ _ _ _ _ _ (by rw [upd_eq]; exact vp_in_nI (by omega) (by decide))) (fun F9 B9 h9 => ?_)
            obtain ⟨e1, e2⟩ := h9
            subst F9
            subst B9
            refine ev_iinc_3 98 d_mo_lends_98 ?_
            refine ev_goto 101 64 d_mo_lends_101 ?_
            rw [upd_eq, nI_clamp (by omega)]
            have hat := mo_aw_at B1 (h + (ct t - (r + 1))) (nI (pt t r)) (nI (pt t r)) 1 0 0 0
            have hsw := mo_aw_sw B1 (h + (ct t - (r + 1))) (nI (pt t r)) (nI (pt t r)) 1 0 0 0
            refine ev_eq (ih (mo_aw B1 (h + (ct t - (r + 1))) (nI (pt t r)) (nI (pt t r)) 1 0 0 0) (by omega) (hs.tr (hsw.le (by omega))) (fun j hjj => ?_)) (h1 := by rw [n_m1]) (h3 := by rw [upd_upd, nI_1, show h + (ct t - (r + 1)) + 1 = h + (ct t - r) by omega])
            by_cases e : j = ct t - (r + 1)
            · subst e
              rw [show ct t - 1 - (ct t - (r + 1)) = r by omega]
              exact hat.1
            · obtain ⟨a1, -⟩ := hsw.2 (h + j) (by omega)
              rw [a1]
              exact hj j (by omega)
      refine ev_aload_0 15 d_mo_lends_15 ?_
      refine mo_geti 16 36 d_mo_lends_16 lk_181 ?_
      refine ev_ifle 19 107 d_mo_lends_19 (fun c19 => ?_) (fun c19 => ?_)
      · exact absurd (show nI (h + 1) ≤ 0 from c19) (nI_nle (by omega) (by omega))
      · refine ev_aload_0 22 d_mo_lends_22 ?_
        refine ev_dup_a 23 d_mo_lends_23 ?_
        refine mo_geti 24 36 d_mo_lends_24 lk_181 ?_
        refine ev_iconst_1 27 d_mo_lends_27 ?_
        refine ev_isub 28 d_mo_lends_28 ?_
        refine mo_puti 29 36 d_mo_lends_29 lp_181 ?_
        rw [upd_upd, upd_eq, nI_pred]
        refine ev_aload_0 32 d_mo_lends_32 ?_
        refine mo_getr 33 26 37 d_mo_lends_33 lk_93 ?_
        refine ev_aload_0 36 d_mo_lends_36 ?_
        refine mo_geti 37 36 d_mo_lends_37 lk_181 ?_
        refine ev_topi (nI (h)) (by exact upd_eq) ?_
        refine mo_aldn (j := h) 40 26 37 d_mo_lends_40 (by show h < 64; omega) ?_
        refine ev_topi (nI t) hT ?_
        refine ev_istore_2 41 d_mo_lends_41 ?_
        refine ev_aload_0 42 d_mo_lends_42 ?_
        refine mo_getr 43 0 2 d_mo_lends_43 lk_7 ?_
        refine ev_iload_2 46 d_mo_lends_46 ?_
        refine mo_aldn (j := t) 47 0 2 d_mo_lends_47 (by show t < 32; omega) ?_
        refine ev_bipush (12) 48 d_mo_lends_48 (by decide) ?_
        refine ev_icmpne 50 55 d_mo_lends_50 (fun c50 => ?_) (fun c50 => ?_)
        · refine ev_aload_0 55 d_mo_lends_55 ?_
          refine mo_getr 56 5 7 d_mo_lends_56 lk_25 ?_
          refine ev_iload_2 59 d_mo_lends_59 ?_
          refine mo_aldn (j := t) 60 5 7 d_mo_lends_60 (by show t < 32; omega) ?_
          refine ev_topi (nI (ct t)) (by rw [hc7]; exact ht1) ?_
          refine ev_iconst_1 61 d_mo_lends_61 ?_
          refine ev_isub 62 d_mo_lends_62 ?_
          refine ev_istore_3 63 d_mo_lends_63 ?_
          refine ev_eq (PU (fun z => c50 (by rw [hc2]; exact z)) (ct t) Bc (Nat.le_refl _) (mo_sw.rf _ _) (fun j hj => absurd hj (by omega))) (h3 := by rw [Nat.sub_self, Nat.add_zero])
        · refine ev_iconst_1 53 d_mo_lends_53 ?_
          refine ev_zret 54 d_mo_lends_54 rfl ?_ ?_
          · rfl
          rw [lb_r, if_pos (by rw [← hc2]; exact c50)] at hK
          exact ⟨_, _, _, rfl, rfl, Or.inl ⟨rfl, hK⟩, ⟨_, rfl⟩, hB⟩
  refine ev_aload_0 0 d_mo_lends_0 ?_
  refine ev_iconst_0 1 d_mo_lends_1 ?_
  refine mo_puti 2 36 d_mo_lends_2 lp_181 ?_
  refine ev_aload_0 5 d_mo_lends_5 ?_
  refine ev_iload_1 6 d_mo_lends_6 ?_
  refine ev_iload_1 7 d_mo_lends_7 ?_
  refine ev_iconst_1 8 d_mo_lends_8 ?_
  refine ev_iconst_0 9 d_mo_lends_9 ?_
  refine ev_iconst_0 10 d_mo_lends_10 ?_
  refine ev_iconst_0 11 d_mo_lends_11 ?_
  refine mo_callv6 12 d_mo_lends_12 hZ kc_184 (mt_await hZ _ _ _ _ _ _ (vp_in_nI (n := 0) (by decide) (by decide))) (fun F9 B9 h9 => ?_)
  obtain ⟨e1, e2⟩ := h9
  subst F9
  subst B9
  have hsw := mo_aw_sw B 0 (nI tt) (nI tt) 1 0 0 0
  have hat := mo_aw_at B 0 (nI tt) (nI tt) 1 0 0 0
  have key : ∀ rr, lb_r B ct pt 5 tt = rr → (match rr with | true => lb_r B ct pt 5 tt = true | false => ∀ (B2 : Nat → Nat → Int32) (q2 q3 : Option Value), mo_sw 0 (mo_aw B 0 (nI tt) (nI tt) 1 0 0 0) B2 → EV (mo_π l D cl_A kI kZ tl Z) m_lends (ev_E (mo_π l D cl_A kI kZ tl Z) 0 0 (mo_qi am kI kZ (fun x F1 B1 => mo_bl x (lb_r B ct pt 5 tt = true) ∧ (∃ w, F1 = upd F 36 w) ∧ mo_sw 0 B B1))) 0 0 15 [some (.ref (am 60)), some (.int (nI tt)), q2, q3] [] (mo_W mo_ci am kI kZ (upd F 36 (nI 0)) B2)) := by
    intro rr e
    cases rr with
    | true => exact e
    | false => exact fun B2 q2 q3 hs => FIN B2 q2 q3 (hsw.tr hs) e
  exact ev_eq (PR 5 tt 0 (mo_aw B 0 (nI tt) (nI tt) 1 0 0 0) none none (hW.2.1 tt htt).2.2.2 htt (by omega) hsw hat.1 (key _ rfl)) (h3 := by rw [upd_upd]; rfl)

theorem mo_u36 (F : Nat → Int32) (w : Int32) {k : Nat} (h : k ≠ 36) : upd F 36 w k = F k := upd_ne h

set_option maxHeartbeats 4000000 in
set_option maxRecDepth 100000 in
theorem mt_fits {l : Launch} {D : va_G} {tl : List (ClassId × FieldType)} {Z : (Nat → Prop) → State → Heap → Prop} {kI kZ : ClassId} {am : Nat → Nat} {F : Nat → Int32} {B : Nat → Nat → Int32} (hZ : ev_Zok Z) (t : Int32) (u : Int32) (NT : Nat) (hNT : F 1 = nI NT) (ct dp : Nat → Nat) (pt : Nat → Nat → Nat) (hW : ty_wf B NT ct dp pt) : MT (mo_π l D cl_A kI kZ tl Z) m_fits 0 0 [.ref (am 60), .int t, .int u] (mo_W mo_ci am kI kZ F B) (mo_qi am kI kZ (fun x F1 B1 => (¬ ((¬ t < 0 ∧ ¬ F 1 ≤ t) ∧ (¬ u < 0 ∧ ¬ F 1 ≤ u)) ∧ x = 0 ∧ F1 = upd F 0 1 ∧ mo_sw 0 B B1) ∨ (∃ tt uu, tt < NT ∧ uu < NT ∧ t = nI tt ∧ u = nI uu ∧ x = nI (nb_v (nb_r B ct pt 5 tt uu 0)) ∧ (∃ w, F1 = upd (upd F 0 0) 36 w) ∧ mo_sw 0 B B1))) := by
  refine mt_of mo_pl rfl (Nat.le_of_ble_eq_true rfl) (ev_eq (lv' := [some (.ref (am 60)), some (.int t), some (.int u)]) ?_)
  refine ev_aload_0 0 d_mo_fits_0 ?_
  refine ev_aload_0 1 d_mo_fits_1 ?_
  refine ev_iload_1 2 d_mo_fits_2 ?_
  refine mo_calli1 3 d_mo_fits_3 hZ kc_150 (mt_isType hZ _) (fun y F1 B1 h => ?_)
  obtain ⟨hy, e1, e2⟩ := h
  subst F1
  subst B1
  refine ev_ifeq 6 21 d_mo_fits_6 (fun c6 => ?_) (fun c6 => ?_)
  · refine ev_iconst_1 21 d_mo_fits_21 ?_
    refine mo_calli1 22 d_mo_fits_22 hZ kc_157 (mt_refuses hZ _) (fun x F1 B1 h => ?_)
    obtain ⟨hx, e1, e2⟩ := h
    subst F1
    subst B1
    refine ev_ifeq 25 32 d_mo_fits_25 (fun c25 => ?_) (fun c25 => ?_)
    · exact absurd c25 (mo_rk hx (by decide))
    · refine ev_iconst_0 28 d_mo_fits_28 ?_
      refine ev_goto 29 38 d_mo_fits_29 ?_
      refine ev_iret 38 d_mo_fits_38 rfl ?_
      exact ⟨_, _, _, rfl, rfl, Or.inl ⟨fun z => mo_b0 hy c6 z.1, rfl, rfl, mo_sw.rf _ _⟩⟩
  · refine ev_aload_0 9 d_mo_fits_9 ?_
    refine ev_iload_2 10 d_mo_fits_10 ?_
    refine mo_calli1 11 d_mo_fits_11 hZ kc_150 (mt_isType hZ _) (fun y2 F1 B1 h => ?_)
    obtain ⟨hy2, e1, e2⟩ := h
    subst F1
    subst B1
    refine ev_ifeq 14 21 d_mo_fits_14 (fun c14 => ?_) (fun c14 => ?_)
    · refine ev_iconst_1 21 d_mo_fits_21 ?_
      refine mo_calli1 22 d_mo_fits_22 hZ kc_157 (mt_refuses hZ _) (fun x F1 B1 h => ?_)
      obtain ⟨hx, e1, e2⟩ := h
      subst F1
      subst B1
      refine ev_ifeq 25 32 d_mo_fits_25 (fun c25 => ?_) (fun c25 => ?_)
      · exact absurd c25 (mo_rk hx (by decide))
      · refine ev_iconst_0 28 d_mo_fits_28 ?_
        refine ev_goto 29 38 d_mo_fits_29 ?_
        refine ev_iret 38 d_mo_fits_38 rfl ?_
        exact ⟨_, _, _, rfl, rfl, Or.inl ⟨fun z => mo_b0 hy2 c14 z.2, rfl, rfl, mo_sw.rf _ _⟩⟩
    · refine ev_iconst_0 17 d_mo_fits_17 ?_
      refine ev_goto 18 22 d_mo_fits_18 ?_
      refine mo_calli1 22 d_mo_fits_22 hZ kc_157 (mt_refuses hZ _) (fun x F1 B1 h => ?_)
      obtain ⟨hx, e1, e2⟩ := h
      subst F1
      subst B1
      refine ev_ifeq 25 32 d_mo_fits_25 (fun c25 => ?_) (fun c25 => ?_)
      · obtain ⟨tt, htt, rfl⟩ := n_typ hNT hW.1 (mo_b1 hy c6)
        obtain ⟨uu, huu, rfl⟩ := n_typ hNT hW.1 (mo_b1 hy2 c14)
        refine ev_aload_0 32 d_mo_fits_32 ?_
        refine ev_iload_1 33 d_mo_fits_33 ?_
        refine ev_iload_2 34 d_mo_fits_34 ?_
        refine mo_calli2 35 d_mo_fits_35 hZ kc_194 (mt_misfit hZ tt uu NT ct dp pt hW htt huu) (fun y9 F9 B9 h9 => ?_)
        obtain ⟨hm, hF, hs⟩ := h9
        refine ev_iret 38 d_mo_fits_38 rfl ?_
        exact ⟨_, _, _, rfl, rfl, Or.inr ⟨tt, uu, htt, huu, rfl, rfl, hm, hF, hs⟩⟩
      · exact absurd (mo_r0 hx) c25

set_option maxHeartbeats 4000000 in
set_option maxRecDepth 100000 in
theorem mt_function {l : Launch} {D : va_G} {tl : List (ClassId × FieldType)} {Z : (Nat → Prop) → State → Heap → Prop} {kI kZ : ClassId} {am : Nat → Nat} {F : Nat → Int32} {B : Nat → Nat → Int32} (hZ : ev_Zok Z) (i : Int32) (a : Int32) (r : Int32) (NI : Nat) (hNI : F 12 = nI NI) (hN6 : NI ≤ 6) (NT : Nat) (hNT : F 1 = nI NT) (ct dp : Nat → Nat) (pt : Nat → Nat → Nat) (hW : ty_wf B NT ct dp pt) (NF : Nat) (hNF : F 25 = nI NF) (hF12 : NF ≤ 12) : MT (mo_π l D cl_A kI kZ tl Z) m_function 0 0 [.ref (am 60), .int i, .int a, .int r] (mo_W mo_ci am kI kZ F B) (mo_qi am kI kZ (fun x F1 B1 => (¬ ((¬ i < 0 ∧ ¬ F 12 ≤ i) ∧ (¬ a < 0 ∧ ¬ F 1 ≤ a) ∧ (¬ r < 0 ∧ ¬ F 1 ≤ r)) ∧ x = 0 ∧ F1 = upd F 0 1 ∧ mo_sw 0 B B1) ∨ (∃ ii aa rr, ii < NI ∧ aa < NT ∧ rr < NT ∧ i = nI ii ∧ a = nI aa ∧ r = nI rr ∧ lb_r B ct pt 5 rr = true ∧ x = 0 ∧ (∃ w, F1 = upd (upd F 36 w) 0 2) ∧ mo_sw 0 B B1) ∨ (∃ ii aa rr, ii < NI ∧ aa < NT ∧ rr < NT ∧ i = nI ii ∧ a = nI aa ∧ r = nI rr ∧ ¬ lb_r B ct pt 5 rr = true ∧ F 25 = 12 ∧ x = 0 ∧ (∃ w, F1 = upd (upd F 36 w) 0 3) ∧ mo_sw 0 B B1) ∨ (∃ ii aa rr, ii < NI ∧ aa < NT ∧ rr < NT ∧ i = nI ii ∧ a = nI aa ∧ r = nI rr ∧ ¬ lb_r B ct pt 5 rr = true ∧ ¬ F 25 = 12 ∧ x = F 25 + 1 - 1 ∧ (∃ w, F1 = upd (upd (upd F 36 w) 0 0) 25 (F 25 + 1)) ∧ ∃ B2, mo_sw 0 B B2 ∧ B1 = va_up (va_up (va_up B2 26 (upd (B2 26) NF i)) 27 (upd (B2 27) NF a)) 28 (upd (B2 28) NF r)))) := by
  refine mt_of mo_pl rfl (Nat.le_of_ble_eq_true rfl) (ev_eq (lv' := [some (.ref (am 60)), some (.int i), some (.int a), some (.int r)]) ?_)
  refine ev_aload_0 0 d_mo_function_0 ?_
  refine ev_aload_0 1 d_mo_function_1 ?_
  refine ev_iload_1 2 d_mo_function_2 ?_
  refine mo_calli1 3 d_mo_function_3 hZ kc_197 (mt_isInstance hZ _) (fun y F1 B1 h => ?_)
  obtain ⟨hy, e1, e2⟩ := h
  subst F1
  subst B1
  refine ev_ifeq 6 25 d_mo_function_6 (fun c6 => ?_) (fun c6 => ?_)
  · refine ev_iconst_1 25 d_mo_function_25 ?_
    refine ev_goto 26 55 d_mo_function_26 ?_
    refine mo_calli1 55 d_mo_function_55 hZ kc_157 (mt_refuses hZ _) (fun x F8 B8 h => ?_)
    obtain ⟨hx, e1, e2⟩ := h
    subst F8
    subst B8
    refine ev_ifeq 58 63 d_mo_function_58 (fun c58 => ?_) (fun c58 => ?_)
    · exact absurd c58 (mo_rk hx (by decide))
    · refine ev_iconst_0 61 d_mo_function_61 ?_
      refine ev_iret 62 d_mo_function_62 rfl ?_
      exact ⟨_, _, _, rfl, rfl, Or.inl ⟨fun z => mo_b0 hy c6 z.1, rfl, rfl, mo_sw.rf _ _⟩⟩
  · refine ev_aload_0 9 d_mo_function_9 ?_
    refine ev_iload_2 10 d_mo_function_10 ?_
    refine mo_calli1 11 d_mo_function_11 hZ kc_150 (mt_isType hZ _) (fun y2 F1 B1 h => ?_)
    obtain ⟨hy2, e1, e2⟩ := h
    subst F1
    subst B1
    refine ev_ifeq 14 25 d_mo_function_14 (fun c14 => ?_) (fun c14 => ?_)
    · refine ev_iconst_1 25 d_mo_function_25 ?_
      refine ev_goto 26 55 d_mo_function_26 ?_
      refine mo_calli1 55 d_mo_function_55 hZ kc_157 (mt_refuses hZ _) (fun x F8 B8 h => ?_)
      obtain ⟨hx, e1, e2⟩ := h
      subst F8
      subst B8
      refine ev_ifeq 58 63 d_mo_function_58 (fun c58 => ?_) (fun c58 => ?_)
      · exact absurd c58 (mo_rk hx (by decide))
      · refine ev_iconst_0 61 d_mo_function_61 ?_
        refine ev_iret 62 d_mo_function_62 rfl ?_
        exact ⟨_, _, _, rfl, rfl, Or.inl ⟨fun z => mo_b0 hy2 c14 z.2.1, rfl, rfl, mo_sw.rf _ _⟩⟩
    · refine ev_aload_0 17 d_mo_function_17 ?_
      refine ev_iload_3 18 d_mo_function_18 ?_
      refine mo_calli1 19 d_mo_function_19 hZ kc_150 (mt_isType hZ _) (fun y3 F1 B1 h => ?_)
      obtain ⟨hy3, e1, e2⟩ := h
      subst F1
      subst B1
      refine ev_ifne 22 29 d_mo_function_22 (fun c22 => ?_) (fun c22 => ?_)
      · obtain ⟨ii, hii, rfl⟩ := n_ins hNI hN6 (mo_b1 hy c6)
        obtain ⟨aa, haa, rfl⟩ := n_typ hNT hW.1 (mo_b1 hy2 c14)
        obtain ⟨rr, hrr, rfl⟩ := n_typ hNT hW.1 (mo_b1 hy3 c22)
        refine ev_aload_0 29 d_mo_function_29 ?_
        refine ev_iload_3 30 d_mo_function_30 ?_
        refine mo_calli1 31 d_mo_function_31 hZ kc_200 (mt_lends hZ rr NT ct dp pt hW hrr) (fun y9 F9 B9 h9 => ?_)
        obtain ⟨hl, ⟨w, e1⟩, hs⟩ := h9
        subst F9
        refine ev_ifeq 34 41 d_mo_function_34 (fun c34 => ?_) (fun c34 => ?_)
        · refine ev_aload_0 41 d_mo_function_41 ?_
          refine mo_geti 42 25 d_mo_function_42 lk_203 ?_
          refine ev_bipush (12) 45 d_mo_function_45 (by decide) ?_
          refine ev_icmpne 47 54 d_mo_function_47 (fun c47 => ?_) (fun c47 => ?_)
          · replace c47 : ¬ F 25 = 12 := c47
            have hlt : NF < 12 := by have := n_ne NF 12 c47 hNF; omega
            refine ev_iconst_0 54 d_mo_function_54 ?_
            refine mo_calli1 55 d_mo_function_55 hZ kc_157 (mt_refuses hZ _) (fun x F8 B8 h => ?_)
            obtain ⟨hx, e1, e2⟩ := h
            subst F8
            subst B8
            refine ev_ifeq 58 63 d_mo_function_58 (fun c58 => ?_) (fun c58 => ?_)
            · refine ev_aload_0 63 d_mo_function_63 ?_
              refine mo_getr 64 20 26 d_mo_function_64 lk_71 ?_
              refine ev_aload_0 67 d_mo_function_67 ?_
              refine mo_geti 68 25 d_mo_function_68 lk_203 ?_
              refine ev_iload_1 71 d_mo_function_71 ?_
              refine ev_sndi (nI (NF)) (by exact hNF) ?_
              refine mo_astn (j := NF) 72 20 26 d_mo_function_72 (by exact hlt) ?_
              refine ev_aload_0 73 d_mo_function_73 ?_
              refine mo_getr 74 21 27 d_mo_function_74 lk_74 ?_
              refine ev_aload_0 77 d_mo_function_77 ?_
              refine mo_geti 78 25 d_mo_function_78 lk_203 ?_
              refine ev_iload_2 81 d_mo_function_81 ?_
              refine ev_sndi (nI (NF)) (by exact hNF) ?_
              refine mo_astn (j := NF) 82 21 27 d_mo_function_82 (by exact hlt) ?_
              refine ev_aload_0 83 d_mo_function_83 ?_
              refine mo_getr 84 22 28 d_mo_function_84 lk_77 ?_
              refine ev_aload_0 87 d_mo_function_87 ?_
              refine mo_geti 88 25 d_mo_function_88 lk_203 ?_
              refine ev_iload_3 91 d_mo_function_91 ?_
              refine ev_sndi (nI (NF)) (by exact hNF) ?_
              refine mo_astn (j := NF) 92 22 28 d_mo_function_92 (by exact hlt) ?_
              refine ev_aload_0 93 d_mo_function_93 ?_
              refine ev_dup_a 94 d_mo_function_94 ?_
              refine mo_geti 95 25 d_mo_function_95 lk_203 ?_
              refine ev_iconst_1 98 d_mo_function_98 ?_
              refine ev_iadd 99 d_mo_function_99 ?_
              refine mo_puti 100 25 d_mo_function_100 lp_203 ?_
              refine ev_aload_0 103 d_mo_function_103 ?_
              refine mo_geti 104 25 d_mo_function_104 lk_203 ?_
              refine ev_iconst_1 107 d_mo_function_107 ?_
              refine ev_isub 108 d_mo_function_108 ?_
              refine ev_iret 109 d_mo_function_109 rfl ?_
              exact ⟨_, _, _, rfl, rfl, Or.inr (Or.inr (Or.inr ⟨ii, aa, rr, hii, haa, hrr, rfl, rfl, rfl, mo_b0 hl c34, c47, rfl, ⟨w, rfl⟩, ⟨_, hs, rfl⟩⟩))⟩
            · exact absurd (mo_r0 hx) c58
          · replace c47 : F 25 = 12 := c47
            refine ev_iconst_3 50 d_mo_function_50 ?_
            refine ev_goto 51 55 d_mo_function_51 ?_
            refine mo_calli1 55 d_mo_function_55 hZ kc_157 (mt_refuses hZ _) (fun x F8 B8 h => ?_)
            obtain ⟨hx, e1, e2⟩ := h
            subst F8
            subst B8
            refine ev_ifeq 58 63 d_mo_function_58 (fun c58 => ?_) (fun c58 => ?_)
            · exact absurd c58 (mo_rk hx (by decide))
            · refine ev_iconst_0 61 d_mo_function_61 ?_
              refine ev_iret 62 d_mo_function_62 rfl ?_
              exact ⟨_, _, _, rfl, rfl, Or.inr (Or.inr (Or.inl ⟨ii, aa, rr, hii, haa, hrr, rfl, rfl, rfl, mo_b0 hl c34, c47, rfl, ⟨w, rfl⟩, hs⟩))⟩
        · refine ev_iconst_2 37 d_mo_function_37 ?_
          refine ev_goto 38 55 d_mo_function_38 ?_
          refine mo_calli1 55 d_mo_function_55 hZ kc_157 (mt_refuses hZ _) (fun x F8 B8 h => ?_)
          obtain ⟨hx, e1, e2⟩ := h
          subst F8
          subst B8
          refine ev_ifeq 58 63 d_mo_function_58 (fun c58 => ?_) (fun c58 => ?_)
          · exact absurd c58 (mo_rk hx (by decide))
          · refine ev_iconst_0 61 d_mo_function_61 ?_
            refine ev_iret 62 d_mo_function_62 rfl ?_
            exact ⟨_, _, _, rfl, rfl, Or.inr (Or.inl ⟨ii, aa, rr, hii, haa, hrr, rfl, rfl, rfl, mo_b1 hl c34, rfl, ⟨w, rfl⟩, hs⟩)⟩
      · refine ev_iconst_1 25 d_mo_function_25 ?_
        refine ev_goto 26 55 d_mo_function_26 ?_
        refine mo_calli1 55 d_mo_function_55 hZ kc_157 (mt_refuses hZ _) (fun x F8 B8 h => ?_)
        obtain ⟨hx, e1, e2⟩ := h
        subst F8
        subst B8
        refine ev_ifeq 58 63 d_mo_function_58 (fun c58 => ?_) (fun c58 => ?_)
        · exact absurd c58 (mo_rk hx (by decide))
        · refine ev_iconst_0 61 d_mo_function_61 ?_
          refine ev_iret 62 d_mo_function_62 rfl ?_
          exact ⟨_, _, _, rfl, rfl, Or.inl ⟨fun z => mo_b0 hy3 c22 z.2.2, rfl, rfl, mo_sw.rf _ _⟩⟩
