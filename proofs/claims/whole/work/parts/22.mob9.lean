/-! types: how they are laid -/
theorem n_typ {x : Int32} {N : Nat} {y : Int32} (hy : y = nI N) (hN : N ≤ 32) (h : ¬ x < 0 ∧ ¬ y ≤ x) : ∃ j : Nat, j < N ∧ x = nI j := by
  obtain ⟨j, hj, rfl⟩ := nI_of h.1
  exact ⟨j, n_nle N j h.2 hy rfl, rfl⟩
def la_al (dr al : Nat → Nat) : Nat → Nat
  | 0 => 1
  | n + 1 => if al (dr n) ≤ la_al dr al n then la_al dr al n else al (dr n)
def la_dp (dr dp : Nat → Nat) : Nat → Nat
  | 0 => 1
  | n + 1 => if dp (dr n) + 1 ≤ la_dp dr dp n then la_dp dr dp n else dp (dr n) + 1
def la_o (k : Int32) (LA e a : Nat) : Nat := if k = 9 then mo_ut e a else if k = 10 then LA else 0
def la_en (k : Int32) (LA : Nat) (dr al sz : Nat → Nat) : Nat → Nat
  | 0 => 0
  | n + 1 => if k = 9 ∨ la_en k LA dr al sz n < la_o k LA (la_en k LA dr al sz n) (al (dr n)) + sz (dr n) then la_o k LA (la_en k LA dr al sz n) (al (dr n)) + sz (dr n) else la_en k LA dr al sz n
def la_os (k : Int32) (LA : Nat) (dr al sz : Nat → Nat) (f : Nat → Int32) : Nat → Nat → Int32
  | 0 => f
  | n + 1 => upd (la_os k LA dr al sz f n) n (nI (la_o k LA (la_en k LA dr al sz n) (al (dr n))))
def la_ft (k n d : Int32) : Prop := ¬ k < 0 ∧ ¬ 12 < k ∧ ((k = 9 ∨ k = 10) → ¬ d < 1) ∧ (k = 8 → d = 1) ∧ (¬ k = 8 → ¬ k = 9 → ¬ k = 10 → d = 0) ∧ (k = 7 → ¬ n < 1 ∧ ¬ 200 < n) ∧ (¬ k < 11 → ¬ n < 0 ∧ ¬ 3 < n)
def la_a0 (k : Int32) : Int32 := if k = 6 ∨ k = 8 then 2 else mo_psz k
def mo_l3 (F : Nat → Int32) (D A S : Int32) : Nat → Int32 := upd (upd (upd F 56 D) 57 A) 58 S
theorem mo_l3a (F : Nat → Int32) (D A S x : Int32) : upd (mo_l3 F D A S) 56 x = mo_l3 F x A S := by
  funext j; simp only [mo_l3, upd]; split <;> simp_all
theorem mo_l3b (F : Nat → Int32) (D A S x : Int32) : upd (mo_l3 F D A S) 57 x = mo_l3 F D x S := by
  funext j; simp only [mo_l3, upd]; split <;> simp_all
theorem mo_l3c (F : Nat → Int32) (D A S x : Int32) : upd (mo_l3 F D A S) 58 x = mo_l3 F D A x := by
  funext j; simp only [mo_l3, upd]; split <;> simp_all
theorem la_al_le {dr al : Nat → Nat} {nd : Nat} (h : ∀ k, k < nd → 1 ≤ al (dr k) ∧ al (dr k) ≤ 8) : ∀ n, n ≤ nd → 1 ≤ la_al dr al n ∧ la_al dr al n ≤ 8 := by
  intro n hn
  induction n with
  | zero => exact ⟨Nat.le_refl _, by show 1 ≤ 8; decide⟩
  | succ n ih =>
    have h1 := ih (by omega)
    have h2 := h n (by omega)
    rw [la_al]; split <;> omega
theorem la_dp_le {dr dp : Nat → Nat} {nd : Nat} (h : ∀ k, k < nd → dp (dr k) ≤ 5) : ∀ n, n ≤ nd → la_dp dr dp n ≤ 6 := by
  intro n hn
  induction n with
  | zero => show 1 ≤ 6; decide
  | succ n ih =>
    have h1 := ih (by omega)
    have h2 := h n (by omega)
    rw [la_dp]; split <;> omega
theorem mo_ut_le (e a : Nat) (h : 1 ≤ a) : mo_ut e a ≤ e + a - 1 := by
  rw [mo_ut]; exact Nat.div_mul_le_self _ _
theorem la_o_le {k : Int32} {LA e a : Nat} (h : 1 ≤ a) (h2 : a ≤ 8) (h3 : LA ≤ 8) : la_o k LA e a ≤ e + 8 := by
  unfold la_o; split
  · have := mo_ut_le e a h; omega
  · split <;> omega
theorem la_en_le {k : Int32} {LA : Nat} {dr al sz : Nat → Nat} {nd : Nat} (h : ∀ k, k < nd → 1 ≤ al (dr k) ∧ al (dr k) ≤ 8 ∧ sz (dr k) ≤ 96) (h3 : LA ≤ 8) : ∀ n, n ≤ nd → la_en k LA dr al sz n ≤ 104 * n := by
  intro n hn
  induction n with
  | zero => exact Nat.le_refl _
  | succ n ih =>
    have h1 := ih (by omega)
    obtain ⟨a, b, c⟩ := h n (by omega)
    have := la_o_le (k := k) (LA := LA) (e := la_en k LA dr al sz n) a b h3
    rw [la_en]; split <;> omega

theorem la_lim {w : Int32} {c tt NT : Nat} (h0 : ¬ w < 0) (h : w < 5 + nI c) (hc : c ≤ 6) (ht : tt < 32) (h1 : ¬ w = 0) (h2 : ¬ w = 1) (h3 : ¬ w = 2) (h4 : ¬ w = 3) (h5 : ¬ w = 4) : vp_in (6 * nI tt + w - 5) 192 := by
  obtain ⟨j, hj, rfl⟩ := nI_of h0
  have hj2 : j < 5 + c := n_lt j (5 + c) h rfl (by rw [← nI_add]; rfl)
  have g1 := n_ne j 0 h1
  have g2 := n_ne j 1 h2
  have g3 := n_ne j 2 h3
  have g4 := n_ne j 3 h4
  have g5 := n_ne j 4 h5
  rw [n_6, pk_mul, nI_add, show (5 : Int32) = nI 5 from rfl, pk_sub (by omega)]
  exact vp_in_nI (by omega) (by decide)

set_option maxHeartbeats 4000000 in
set_option maxRecDepth 100000 in
theorem mt_layout {l : Launch} {D : va_G} {tl : List (ClassId × FieldType)} {Z : (Nat → Prop) → State → Heap → Prop} {kI kZ : ClassId} {am : Nat → Nat} {F : Nat → Int32} {B : Nat → Nat → Int32} (hZ : ev_Zok Z) (t : Int32) (w : Int32) (NT : Nat) (hNT : F 1 = nI NT) (h32 : NT ≤ 32) (hct : ∀ j, j < NT → ∃ c, c ≤ 6 ∧ B 7 j = nI c) : MT (mo_π l D cl_A kI kZ tl Z) m_layout 0 0 [.ref (am 60), .int t, .int w] (mo_W mo_ci am kI kZ F B) (mo_qi am kI kZ (fun x F1 B1 => ((¬ (¬ t < 0 ∧ ¬ F 1 ≤ t) ∧ x = 0 ∧ F1 = upd F 0 1) ∨ (∃ tt, tt < NT ∧ t = nI tt ∧ (w < 0 ∨ ¬ w < 5 + B 7 tt) ∧ x = 0 ∧ F1 = upd F 0 2) ∨ (∃ tt, tt < NT ∧ t = nI tt ∧ ¬ w < 0 ∧ w < 5 + B 7 tt ∧ x = (if w = 0 then B 2 tt else if w = 1 then B 4 tt else if w = 2 then B 5 tt else if w = 3 then B 6 tt else if w = 4 then B 7 tt else B 9 (6 * nI tt + w - 5).toNatClampNeg) ∧ F1 = upd F 0 0)) ∧ B1 = B)) := by
  refine mt_of mo_pl rfl (Nat.le_of_ble_eq_true rfl) (ev_eq (lv' := [some (.ref (am 60)), some (.int t), some (.int w)]) ?_)
  refine ev_aload_0 0 d_mo_layout_0 ?_
  refine ev_aload_0 1 d_mo_layout_1 ?_
  refine ev_iload_1 2 d_mo_layout_2 ?_
  refine mo_calli1 3 d_mo_layout_3 hZ kc_150 (mt_isType hZ _) (fun y F1 B1 h => ?_)
  obtain ⟨hy, e1, e2⟩ := h
  subst F1
  subst B1
  refine ev_ifne 6 13 d_mo_layout_6 (fun c6 => ?_) (fun c6 => ?_)
  · obtain ⟨tt, htt, rfl⟩ := n_typ hNT h32 (mo_b1 hy c6)
    refine ev_iload_2 13 d_mo_layout_13 ?_
    refine ev_iflt 14 29 d_mo_layout_14 (fun c14 => ?_) (fun c14 => ?_)
    · refine ev_iconst_2 29 d_mo_layout_29 ?_
      refine ev_goto 30 34 d_mo_layout_30 ?_
      refine mo_calli1 34 d_mo_layout_34 hZ kc_157 (mt_refuses hZ _) (fun x F1 B1 h => ?_)
      obtain ⟨hx, e1, e2⟩ := h
      subst F1
      subst B1
      refine ev_ifeq 37 42 d_mo_layout_37 (fun c37 => ?_) (fun c37 => ?_)
      · exact absurd c37 (mo_rk hx (by decide))
      · refine ev_iconst_0 40 d_mo_layout_40 ?_
        refine ev_iret 41 d_mo_layout_41 rfl ?_
        exact ⟨_, _, _, rfl, rfl, Or.inr (Or.inl ⟨tt, htt, rfl, Or.inl c14, rfl, rfl⟩), rfl⟩
    · refine ev_iload_2 17 d_mo_layout_17 ?_
      refine ev_iconst_5 18 d_mo_layout_18 ?_
      refine ev_aload_0 19 d_mo_layout_19 ?_
      refine mo_getr 20 5 7 d_mo_layout_20 lk_25 ?_
      refine ev_iload_1 23 d_mo_layout_23 ?_
      refine mo_aldn (j := tt) 24 5 7 d_mo_layout_24 (by show tt < 32; omega) ?_
      refine ev_iadd 25 d_mo_layout_25 ?_
      refine ev_icmplt 26 33 d_mo_layout_26 (fun c26 => ?_) (fun c26 => ?_)
      · refine ev_iconst_0 33 d_mo_layout_33 ?_
        refine mo_calli1 34 d_mo_layout_34 hZ kc_157 (mt_refuses hZ _) (fun x F1 B1 h => ?_)
        obtain ⟨hx, e1, e2⟩ := h
        subst F1
        subst B1
        refine ev_ifeq 37 42 d_mo_layout_37 (fun c37 => ?_) (fun c37 => ?_)
        · refine ev_iload_2 42 d_mo_layout_42 ?_
          refine ev_ifne 43 55 d_mo_layout_43 (fun c43 => ?_) (fun c43 => ?_)
          · refine ev_iload_2 55 d_mo_layout_55 ?_
            refine ev_iconst_1 56 d_mo_layout_56 ?_
            refine ev_icmpne 57 69 d_mo_layout_57 (fun c57 => ?_) (fun c57 => ?_)
            · refine ev_iload_2 69 d_mo_layout_69 ?_
              refine ev_iconst_2 70 d_mo_layout_70 ?_
              refine ev_icmpne 71 83 d_mo_layout_71 (fun c71 => ?_) (fun c71 => ?_)
              · refine ev_iload_2 83 d_mo_layout_83 ?_
                refine ev_iconst_3 84 d_mo_layout_84 ?_
                refine ev_icmpne 85 97 d_mo_layout_85 (fun c85 => ?_) (fun c85 => ?_)
                · refine ev_iload_2 97 d_mo_layout_97 ?_
                  refine ev_iconst_4 98 d_mo_layout_98 ?_
                  refine ev_icmpne 99 111 d_mo_layout_99 (fun c99 => ?_) (fun c99 => ?_)
                  · refine ev_aload_0 111 d_mo_layout_111 ?_
                    refine mo_getr 112 7 9 d_mo_layout_112 lk_31 ?_
                    refine ev_bipush (6) 115 d_mo_layout_115 (by decide) ?_
                    refine ev_iload_1 117 d_mo_layout_117 ?_
                    refine ev_imul 118 d_mo_layout_118 ?_
                    refine ev_iload_2 119 d_mo_layout_119 ?_
                    refine ev_iadd 120 d_mo_layout_120 ?_
                    refine ev_iconst_5 121 d_mo_layout_121 ?_
                    refine ev_isub 122 d_mo_layout_122 ?_
                    refine mo_ald 123 7 9 d_mo_layout_123 (by obtain ⟨c, hc, hcc⟩ := hct tt htt; exact la_lim (NT := NT) c14 (hcc ▸ c26) hc (by omega) c43 c57 c71 c85 c99) ?_
                    refine ev_iret 124 d_mo_layout_124 rfl ?_
                    exact ⟨_, _, _, rfl, rfl, Or.inr (Or.inr ⟨tt, htt, rfl, c14, c26, by rw [if_neg c43, if_neg c57, if_neg c71, if_neg c85, if_neg c99], rfl⟩), rfl⟩
                  · refine ev_aload_0 102 d_mo_layout_102 ?_
                    refine mo_getr 103 5 7 d_mo_layout_103 lk_25 ?_
                    refine ev_iload_1 106 d_mo_layout_106 ?_
                    refine mo_aldn (j := tt) 107 5 7 d_mo_layout_107 (by show tt < 32; omega) ?_
                    refine ev_goto 108 124 d_mo_layout_108 ?_
                    refine ev_iret 124 d_mo_layout_124 rfl ?_
                    exact ⟨_, _, _, rfl, rfl, Or.inr (Or.inr ⟨tt, htt, rfl, c14, c26, by rw [if_neg c43, if_neg c57, if_neg c71, if_neg c85, if_pos c99], rfl⟩), rfl⟩
                · refine ev_aload_0 88 d_mo_layout_88 ?_
                  refine mo_getr 89 4 6 d_mo_layout_89 lk_22 ?_
                  refine ev_iload_1 92 d_mo_layout_92 ?_
                  refine mo_aldn (j := tt) 93 4 6 d_mo_layout_93 (by show tt < 32; omega) ?_
                  refine ev_goto 94 124 d_mo_layout_94 ?_
                  refine ev_iret 124 d_mo_layout_124 rfl ?_
                  exact ⟨_, _, _, rfl, rfl, Or.inr (Or.inr ⟨tt, htt, rfl, c14, c26, by rw [if_neg c43, if_neg c57, if_neg c71, if_pos c85], rfl⟩), rfl⟩
              · refine ev_aload_0 74 d_mo_layout_74 ?_
                refine mo_getr 75 3 5 d_mo_layout_75 lk_19 ?_
                refine ev_iload_1 78 d_mo_layout_78 ?_
                refine mo_aldn (j := tt) 79 3 5 d_mo_layout_79 (by show tt < 32; omega) ?_
                refine ev_goto 80 124 d_mo_layout_80 ?_
                refine ev_iret 124 d_mo_layout_124 rfl ?_
                exact ⟨_, _, _, rfl, rfl, Or.inr (Or.inr ⟨tt, htt, rfl, c14, c26, by rw [if_neg c43, if_neg c57, if_pos c71], rfl⟩), rfl⟩
            · refine ev_aload_0 60 d_mo_layout_60 ?_
              refine mo_getr 61 2 4 d_mo_layout_61 lk_16 ?_
              refine ev_iload_1 64 d_mo_layout_64 ?_
              refine mo_aldn (j := tt) 65 2 4 d_mo_layout_65 (by show tt < 32; omega) ?_
              refine ev_goto 66 124 d_mo_layout_66 ?_
              refine ev_iret 124 d_mo_layout_124 rfl ?_
              exact ⟨_, _, _, rfl, rfl, Or.inr (Or.inr ⟨tt, htt, rfl, c14, c26, by rw [if_neg c43, if_pos c57], rfl⟩), rfl⟩
          · refine ev_aload_0 46 d_mo_layout_46 ?_
            refine mo_getr 47 0 2 d_mo_layout_47 lk_7 ?_
            refine ev_iload_1 50 d_mo_layout_50 ?_
            refine mo_aldn (j := tt) 51 0 2 d_mo_layout_51 (by show tt < 32; omega) ?_
            refine ev_goto 52 124 d_mo_layout_52 ?_
            refine ev_iret 124 d_mo_layout_124 rfl ?_
            exact ⟨_, _, _, rfl, rfl, Or.inr (Or.inr ⟨tt, htt, rfl, c14, c26, by rw [if_pos c43], rfl⟩), rfl⟩
        · exact absurd (mo_r0 hx) c37
      · refine ev_iconst_2 29 d_mo_layout_29 ?_
        refine ev_goto 30 34 d_mo_layout_30 ?_
        refine mo_calli1 34 d_mo_layout_34 hZ kc_157 (mt_refuses hZ _) (fun x F1 B1 h => ?_)
        obtain ⟨hx, e1, e2⟩ := h
        subst F1
        subst B1
        refine ev_ifeq 37 42 d_mo_layout_37 (fun c37 => ?_) (fun c37 => ?_)
        · exact absurd c37 (mo_rk hx (by decide))
        · refine ev_iconst_0 40 d_mo_layout_40 ?_
          refine ev_iret 41 d_mo_layout_41 rfl ?_
          exact ⟨_, _, _, rfl, rfl, Or.inr (Or.inl ⟨tt, htt, rfl, Or.inr c26, rfl, rfl⟩), rfl⟩
  · refine ev_iconst_1 9 d_mo_layout_9 ?_
    refine ev_goto 10 34 d_mo_layout_10 ?_
    refine mo_calli1 34 d_mo_layout_34 hZ kc_157 (mt_refuses hZ _) (fun x F1 B1 h => ?_)
    obtain ⟨hx, e1, e2⟩ := h
    subst F1
    subst B1
    refine ev_ifeq 37 42 d_mo_layout_37 (fun c37 => ?_) (fun c37 => ?_)
    · exact absurd c37 (mo_rk hx (by decide))
    · refine ev_iconst_0 40 d_mo_layout_40 ?_
      refine ev_iret 41 d_mo_layout_41 rfl ?_
      exact ⟨_, _, _, rfl, rfl, Or.inl ⟨mo_b0 hy c6, rfl, rfl⟩, rfl⟩

set_option maxHeartbeats 4000000 in
set_option maxRecDepth 100000 in
theorem mt_lays {l : Launch} {D : va_G} {tl : List (ClassId × FieldType)} {Z : (Nat → Prop) → State → Heap → Prop} {kI kZ : ClassId} {am : Nat → Nat} {F : Nat → Int32} {B : Nat → Nat → Int32} (hZ : ev_Zok Z) (k : Int32) (n : Int32) (nd : Nat) (hnd : F 10 = nI nd) (hn6 : nd ≤ 6) (dr al sz dp : Nat → Nat) (hdr : ∀ j, j < nd → B 11 j = nI (dr j) ∧ dr j < 32) (hal : ∀ j, j < nd → B 5 (dr j) = nI (al (dr j)) ∧ 1 ≤ al (dr j) ∧ al (dr j) ≤ 8) (hsz : ∀ j, j < nd → B 4 (dr j) = nI (sz (dr j)) ∧ sz (dr j) ≤ 96) (hdp : ∀ j, j < nd → B 6 (dr j) = nI (dp (dr j)) ∧ dp (dr j) ≤ 5) : MT (mo_π l D cl_A kI kZ tl Z) m_lays 0 0 [.ref (am 60), .int k, .int n] (mo_W mo_ci am kI kZ F B) (mo_qi am kI kZ (fun x F1 B1 => (¬ la_ft k n (F 10) ∧ x = 0 ∧ F1 = F ∧ B1 = B) ∨ (la_ft k n (F 10) ∧ mo_bl x (¬ 5 < nI (la_dp dr dp nd) ∧ ¬ 96 < (if k = 9 ∨ k = 10 then nI (mo_ut (la_en k (la_al dr al nd) dr al sz nd) (la_al dr al nd)) else mo_psz k)) ∧ F1 = mo_l3 F (nI (la_dp dr dp nd)) (if k = 9 ∨ k = 10 then nI (la_al dr al nd) else la_a0 k) (if k = 9 ∨ k = 10 then nI (mo_ut (la_en k (la_al dr al nd) dr al sz nd) (la_al dr al nd)) else mo_psz k) ∧ B1 = va_up B 59 (la_os k (la_al dr al nd) dr al sz (B 59) nd)))) := by
  refine mt_of mo_pl rfl (Nat.le_of_ble_eq_true rfl) (ev_eq (lv' := [some (.ref (am 60)), some (.int k), some (.int n), none, none, none, none, none, none]) ?_)
  have hal8 : ∀ j, j ≤ nd → 1 ≤ la_al dr al j ∧ la_al dr al j ≤ 8 := la_al_le (fun j hj => (hal j hj).2)
  have hen : ∀ j, j ≤ nd → la_en k (la_al dr al nd) dr al sz j ≤ 104 * j := la_en_le (fun j hj => ⟨(hal j hj).2.1, (hal j hj).2.2, (hsz j hj).2⟩) (hal8 nd (Nat.le_refl _)).2
  have L220 : ∀ (mm : Int32), mo_bl mm (k = 9 ∨ k = 10) → la_ft k n (F 10) → ∀ (m j : Nat) (o7 o8 : Option Value), nd - j < m → j ≤ nd → EV (mo_π l D cl_A kI kZ tl Z) m_lays (ev_E (mo_π l D cl_A kI kZ tl Z) 0 0 (mo_qi am kI kZ (fun x F1 B1 => (¬ la_ft k n (F 10) ∧ x = 0 ∧ F1 = F ∧ B1 = B) ∨ (la_ft k n (F 10) ∧ mo_bl x (¬ 5 < nI (la_dp dr dp nd) ∧ ¬ 96 < (if k = 9 ∨ k = 10 then nI (mo_ut (la_en k (la_al dr al nd) dr al sz nd) (la_al dr al nd)) else mo_psz k)) ∧ F1 = mo_l3 F (nI (la_dp dr dp nd)) (if k = 9 ∨ k = 10 then nI (la_al dr al nd) else la_a0 k) (if k = 9 ∨ k = 10 then nI (mo_ut (la_en k (la_al dr al nd) dr al sz nd) (la_al dr al nd)) else mo_psz k) ∧ B1 = va_up B 59 (la_os k (la_al dr al nd) dr al sz (B 59) nd))))) 0 0 220 [some (.ref (am 60)), some (.int k), some (.int n), some (.int mm), some (.int 1), some (.int (nI (la_en k (la_al dr al nd) dr al sz j))), some (.int (nI j)), o7, o8] [] (mo_W mo_ci am kI kZ (mo_l3 F (nI (la_dp dr dp j)) (if k = 9 ∨ k = 10 then nI (la_al dr al nd) else la_a0 k) (mo_psz k)) (va_up B 59 (la_os k (la_al dr al nd) dr al sz (B 59) j))) := by
    intro mm hmm hft m
    induction m with
    | zero => intro j o7 o8 h; omega
    | succ m ih =>
      intro j o7 o8 hm hj
      have hej := hen j hj
      have hla := hal8 nd (Nat.le_refl _)
      have hdl : la_dp dr dp j ≤ 6 := la_dp_le (fun j hj => (hdp j hj).2) j hj
      refine ev_iload_6 220 d_mo_lays_220 ?_
      refine ev_aload_0 222 d_mo_lays_222 ?_
      refine mo_geti 223 10 d_mo_lays_223 lk_154 ?_
      refine ev_icmpge 226 361 d_mo_lays_226 (fun c226 => ?_) (fun c226 => ?_)
      · have h226 := n_le nd j c226 hnd
        have ej : j = nd := by omega
        subst j
        refine ev_aload_0 361 d_mo_lays_361 ?_
        refine ev_iload_3 362 d_mo_lays_362 ?_
        refine ev_ifeq 363 378 d_mo_lays_363 (fun c363 => ?_) (fun c363 => ?_)
        · have hmn := mo_b0 hmm c363
          refine ev_aload_0 378 d_mo_lays_378 ?_
          refine mo_geti 379 58 d_mo_lays_379 lk_170 ?_
          refine ev_topi (if k = 9 ∨ k = 10 then nI (mo_ut (la_en k (la_al dr al nd) dr al sz nd) (la_al dr al nd)) else mo_psz k) (Eq.symm (if_neg hmn)) ?_
          refine mo_puti 382 58 d_mo_lays_382 lp_170 ?_
          rw [mo_l3c]
          refine ev_aload_0 385 d_mo_lays_385 ?_
          refine mo_geti 386 56 d_mo_lays_386 lk_160 ?_
          refine ev_iconst_5 389 d_mo_lays_389 ?_
          refine ev_icmpgt 390 406 d_mo_lays_390 (fun c390 => ?_) (fun c390 => ?_)
          · refine ev_iconst_0 406 d_mo_lays_406 ?_
            refine ev_zret 407 d_mo_lays_407 rfl ?_ ?_
            · rfl
            exact ⟨_, _, _, rfl, rfl, Or.inr ⟨hft, Or.inr ⟨rfl, fun z => z.1 c390⟩, rfl, rfl⟩⟩
          · refine ev_aload_0 393 d_mo_lays_393 ?_
            refine mo_geti 394 58 d_mo_lays_394 lk_170 ?_
            refine ev_bipush (96) 397 d_mo_lays_397 (by decide) ?_
            refine ev_icmpgt 399 406 d_mo_lays_399 (fun c399 => ?_) (fun c399 => ?_)
            · refine ev_iconst_0 406 d_mo_lays_406 ?_
              refine ev_zret 407 d_mo_lays_407 rfl ?_ ?_
              · rfl
              exact ⟨_, _, _, rfl, rfl, Or.inr ⟨hft, Or.inr ⟨rfl, fun z => z.2 c399⟩, rfl, rfl⟩⟩
            · refine ev_iconst_1 402 d_mo_lays_402 ?_
              refine ev_goto 403 407 d_mo_lays_403 ?_
              refine ev_zret 407 d_mo_lays_407 rfl ?_ ?_
              · rfl
              exact ⟨_, _, _, rfl, rfl, Or.inr ⟨hft, Or.inl ⟨rfl, c390, c399⟩, rfl, rfl⟩⟩
        · have hmn := mo_b1 hmm c363
          refine ev_iload_5 366 d_mo_lays_366 ?_
          refine ev_aload_0 368 d_mo_lays_368 ?_
          refine mo_geti 369 57 d_mo_lays_369 lk_167 ?_
          refine ev_topi (nI (la_al dr al nd)) (if_pos hmn) ?_
          refine mo_scalli2 372 d_mo_lays_372 hZ kc_173 (mt_upTo hZ _ _ (fun z => absurd ((n_z (by omega)).mp z) (by omega))) (fun y F9 B9 h => ?_)
          obtain ⟨rfl, e1, e2⟩ := h
          subst F9
          subst B9
          refine ev_topi (nI (mo_ut (la_en k (la_al dr al nd) dr al sz nd) (la_al dr al nd))) (mo_ut_eq (by omega) (by omega) (by omega)) ?_
          refine ev_goto 375 382 d_mo_lays_375 ?_
          refine ev_topi (if k = 9 ∨ k = 10 then nI (mo_ut (la_en k (la_al dr al nd) dr al sz nd) (la_al dr al nd)) else mo_psz k) (Eq.symm (if_pos hmn)) ?_
          refine mo_puti 382 58 d_mo_lays_382 lp_170 ?_
          rw [mo_l3c]
          refine ev_aload_0 385 d_mo_lays_385 ?_
          refine mo_geti 386 56 d_mo_lays_386 lk_160 ?_
          refine ev_iconst_5 389 d_mo_lays_389 ?_
          refine ev_icmpgt 390 406 d_mo_lays_390 (fun c390 => ?_) (fun c390 => ?_)
          · refine ev_iconst_0 406 d_mo_lays_406 ?_
            refine ev_zret 407 d_mo_lays_407 rfl ?_ ?_
            · rfl
            exact ⟨_, _, _, rfl, rfl, Or.inr ⟨hft, Or.inr ⟨rfl, fun z => z.1 c390⟩, rfl, rfl⟩⟩
          · refine ev_aload_0 393 d_mo_lays_393 ?_
            refine mo_geti 394 58 d_mo_lays_394 lk_170 ?_
            refine ev_bipush (96) 397 d_mo_lays_397 (by decide) ?_
            refine ev_icmpgt 399 406 d_mo_lays_399 (fun c399 => ?_) (fun c399 => ?_)
            · refine ev_iconst_0 406 d_mo_lays_406 ?_
              refine ev_zret 407 d_mo_lays_407 rfl ?_ ?_
              · rfl
              exact ⟨_, _, _, rfl, rfl, Or.inr ⟨hft, Or.inr ⟨rfl, fun z => z.2 c399⟩, rfl, rfl⟩⟩
            · refine ev_iconst_1 402 d_mo_lays_402 ?_
              refine ev_goto 403 407 d_mo_lays_403 ?_
              refine ev_zret 407 d_mo_lays_407 rfl ?_ ?_
              · rfl
              exact ⟨_, _, _, rfl, rfl, Or.inr ⟨hft, Or.inl ⟨rfl, c390, c399⟩, rfl, rfl⟩⟩
      · have h226 := n_nle nd j c226 hnd
        refine ev_aload_0 229 d_mo_lays_229 ?_
        refine mo_getr 230 8 11 d_mo_lays_230 lk_34 ?_
        refine ev_iload_6 233 d_mo_lays_233 ?_
        refine mo_aldn (j := j) 235 8 11 d_mo_lays_235 (by show j < 6; omega) ?_
        refine ev_topi (nI (dr j)) (hdr j (by omega)).1 ?_
        have hdj := hdp j (by omega)
        have haj := hal j (by omega)
        have hsj := hsz j (by omega)
        have hoj := la_o_le (k := k) (LA := (la_al dr al nd)) (e := la_en k (la_al dr al nd) dr al sz j) haj.2.1 haj.2.2 hla.2
        refine ev_istore_7 236 d_mo_lays_236 ?_
        refine ev_aload_0 238 d_mo_lays_238 ?_
        refine ev_aload_0 239 d_mo_lays_239 ?_
        refine mo_getr 240 4 6 d_mo_lays_240 lk_22 ?_
        refine ev_iload_7 243 d_mo_lays_243 ?_
        refine mo_aldn (j := dr j) 245 4 6 d_mo_lays_245 (by exact (hdr j (by omega)).2) ?_
        refine ev_topi (nI (dp (dr j))) hdj.1 ?_
        refine ev_iconst_1 246 d_mo_lays_246 ?_
        refine ev_iadd 247 d_mo_lays_247 ?_
        rw [nI_1]
        refine ev_aload_0 248 d_mo_lays_248 ?_
        refine mo_geti 249 56 d_mo_lays_249 lk_160 ?_
        refine ev_icmple 252 267 d_mo_lays_252 (fun c252 => ?_) (fun c252 => ?_)
        · refine ev_aload_0 267 d_mo_lays_267 ?_
          refine mo_geti 268 56 d_mo_lays_268 lk_160 ?_
          refine mo_puti 271 56 d_mo_lays_271 lp_160 ?_
          rw [mo_l3a]
          refine ev_aload_0 274 d_mo_lays_274 ?_
          refine mo_getr 275 41 59 d_mo_lays_275 lk_138 ?_
          refine ev_iload_6 278 d_mo_lays_278 ?_
          refine ev_iload_1 280 d_mo_lays_280 ?_
          refine ev_bipush (9) 281 d_mo_lays_281 (by decide) ?_
          refine ev_icmpne 283 301 d_mo_lays_283 (fun c283 => ?_) (fun c283 => ?_)
          · refine ev_iload_1 301 d_mo_lays_301 ?_
            refine ev_bipush (10) 302 d_mo_lays_302 (by decide) ?_
            refine ev_icmpne 304 314 d_mo_lays_304 (fun c304 => ?_) (fun c304 => ?_)
            · refine ev_iconst_0 314 d_mo_lays_314 ?_
              refine ev_topi (nI (la_o k (la_al dr al nd) (la_en k (la_al dr al nd) dr al sz j) (al (dr j)))) (by rw [la_o, if_neg c283, if_neg c304]; rfl) ?_
              refine mo_astn (j := j) 315 41 59 d_mo_lays_315 (by show j < 6; omega) ?_
              refine ev_aload_0 316 d_mo_lays_316 ?_
              refine mo_getr 317 41 59 d_mo_lays_317 lk_138 ?_
              refine ev_iload_6 320 d_mo_lays_320 ?_
              refine mo_aldn (j := j) 322 41 59 d_mo_lays_322 (by show j < 6; omega) ?_
              refine ev_topi (nI (la_o k (la_al dr al nd) (la_en k (la_al dr al nd) dr al sz j) (al (dr j)))) (by simp only [va_up, upd, if_true]) ?_
              refine ev_aload_0 323 d_mo_lays_323 ?_
              refine mo_getr 324 2 4 d_mo_lays_324 lk_16 ?_
              refine ev_iload_7 327 d_mo_lays_327 ?_
              refine mo_aldn (j := dr j) 329 2 4 d_mo_lays_329 (by exact (hdr j (by omega)).2) ?_
              refine ev_topi (nI (sz (dr j))) hsj.1 ?_
              refine ev_iadd 330 d_mo_lays_330 ?_
              rw [nI_add]
              refine ev_istore_8 331 d_mo_lays_331 ?_
              refine ev_iload_1 333 d_mo_lays_333 ?_
              refine ev_bipush (9) 334 d_mo_lays_334 (by decide) ?_
              refine ev_icmpeq 336 346 d_mo_lays_336 (fun c336 => ?_) (fun c336 => ?_)
              · refine ev_iload_8 346 d_mo_lays_346 ?_
                refine ev_goto 348 353 d_mo_lays_348 ?_
                refine ev_istore_5 353 d_mo_lays_353 ?_
                refine ev_iinc_6 355 d_mo_lays_355 ?_
                refine ev_goto 358 220 d_mo_lays_358 ?_
                exact ev_eq (ih (j + 1) _ _ (by omega) (by omega)) (h1 := by rw [n_i1, la_en, if_pos (Or.inl c336)]) (h3 := by rw [la_dp, if_pos (n_le (dp (dr j) + 1) (la_dp dr dp j) c252)]; exact congrArg (mo_W mo_ci am kI kZ _) (bx_uu _ 59 _ _))
              · refine ev_iload_8 339 d_mo_lays_339 ?_
                refine ev_iload_5 341 d_mo_lays_341 ?_
                refine ev_icmple 343 351 d_mo_lays_343 (fun c343 => ?_) (fun c343 => ?_)
                · refine ev_iload_5 351 d_mo_lays_351 ?_
                  refine ev_istore_5 353 d_mo_lays_353 ?_
                  refine ev_iinc_6 355 d_mo_lays_355 ?_
                  refine ev_goto 358 220 d_mo_lays_358 ?_
                  exact ev_eq (ih (j + 1) _ _ (by omega) (by omega)) (h1 := by rw [n_i1, la_en, if_neg (show ¬ (k = 9 ∨ la_en k (la_al dr al nd) dr al sz j < la_o k (la_al dr al nd) (la_en k (la_al dr al nd) dr al sz j) (al (dr j)) + sz (dr j)) by have := n_le (la_o k (la_al dr al nd) (la_en k (la_al dr al nd) dr al sz j) (al (dr j)) + sz (dr j)) (la_en k (la_al dr al nd) dr al sz j) c343; exact fun z => z.elim c336 (fun z => by omega))]) (h3 := by rw [la_dp, if_pos (n_le (dp (dr j) + 1) (la_dp dr dp j) c252)]; exact congrArg (mo_W mo_ci am kI kZ _) (bx_uu _ 59 _ _))
                · refine ev_iload_8 346 d_mo_lays_346 ?_
                  refine ev_goto 348 353 d_mo_lays_348 ?_
                  refine ev_istore_5 353 d_mo_lays_353 ?_
                  refine ev_iinc_6 355 d_mo_lays_355 ?_
                  refine ev_goto 358 220 d_mo_lays_358 ?_
                  exact ev_eq (ih (j + 1) _ _ (by omega) (by omega)) (h1 := by rw [n_i1, la_en, if_pos (Or.inr (n_nle (la_o k (la_al dr al nd) (la_en k (la_al dr al nd) dr al sz j) (al (dr j)) + sz (dr j)) (la_en k (la_al dr al nd) dr al sz j) c343))]) (h3 := by rw [la_dp, if_pos (n_le (dp (dr j) + 1) (la_dp dr dp j) c252)]; exact congrArg (mo_W mo_ci am kI kZ _) (bx_uu _ 59 _ _))
            · refine ev_aload_0 307 d_mo_lays_307 ?_
              refine mo_geti 308 57 d_mo_lays_308 lk_167 ?_
              refine ev_goto 311 315 d_mo_lays_311 ?_
              refine ev_topi (nI (la_o k (la_al dr al nd) (la_en k (la_al dr al nd) dr al sz j) (al (dr j)))) (by rw [la_o, if_neg c283, if_pos c304]; show (if k = 9 ∨ k = 10 then nI (la_al dr al nd) else la_a0 k) = _; rw [if_pos (Or.inr c304)]) ?_
              refine mo_astn (j := j) 315 41 59 d_mo_lays_315 (by show j < 6; omega) ?_
              refine ev_aload_0 316 d_mo_lays_316 ?_
              refine mo_getr 317 41 59 d_mo_lays_317 lk_138 ?_
              refine ev_iload_6 320 d_mo_lays_320 ?_
              refine mo_aldn (j := j) 322 41 59 d_mo_lays_322 (by show j < 6; omega) ?_
              refine ev_topi (nI (la_o k (la_al dr al nd) (la_en k (la_al dr al nd) dr al sz j) (al (dr j)))) (by simp only [va_up, upd, if_true]) ?_
              refine ev_aload_0 323 d_mo_lays_323 ?_
              refine mo_getr 324 2 4 d_mo_lays_324 lk_16 ?_
              refine ev_iload_7 327 d_mo_lays_327 ?_
              refine mo_aldn (j := dr j) 329 2 4 d_mo_lays_329 (by exact (hdr j (by omega)).2) ?_
              refine ev_topi (nI (sz (dr j))) hsj.1 ?_
              refine ev_iadd 330 d_mo_lays_330 ?_
              rw [nI_add]
              refine ev_istore_8 331 d_mo_lays_331 ?_
              refine ev_iload_1 333 d_mo_lays_333 ?_
              refine ev_bipush (9) 334 d_mo_lays_334 (by decide) ?_
              refine ev_icmpeq 336 346 d_mo_lays_336 (fun c336 => ?_) (fun c336 => ?_)
              · refine ev_iload_8 346 d_mo_lays_346 ?_
                refine ev_goto 348 353 d_mo_lays_348 ?_
                refine ev_istore_5 353 d_mo_lays_353 ?_
                refine ev_iinc_6 355 d_mo_lays_355 ?_
                refine ev_goto 358 220 d_mo_lays_358 ?_
                exact ev_eq (ih (j + 1) _ _ (by omega) (by omega)) (h1 := by rw [n_i1, la_en, if_pos (Or.inl c336)]) (h3 := by rw [la_dp, if_pos (n_le (dp (dr j) + 1) (la_dp dr dp j) c252)]; exact congrArg (mo_W mo_ci am kI kZ _) (bx_uu _ 59 _ _))
              · refine ev_iload_8 339 d_mo_lays_339 ?_
                refine ev_iload_5 341 d_mo_lays_341 ?_
                refine ev_icmple 343 351 d_mo_lays_343 (fun c343 => ?_) (fun c343 => ?_)
                · refine ev_iload_5 351 d_mo_lays_351 ?_
                  refine ev_istore_5 353 d_mo_lays_353 ?_
                  refine ev_iinc_6 355 d_mo_lays_355 ?_
                  refine ev_goto 358 220 d_mo_lays_358 ?_
                  exact ev_eq (ih (j + 1) _ _ (by omega) (by omega)) (h1 := by rw [n_i1, la_en, if_neg (show ¬ (k = 9 ∨ la_en k (la_al dr al nd) dr al sz j < la_o k (la_al dr al nd) (la_en k (la_al dr al nd) dr al sz j) (al (dr j)) + sz (dr j)) by have := n_le (la_o k (la_al dr al nd) (la_en k (la_al dr al nd) dr al sz j) (al (dr j)) + sz (dr j)) (la_en k (la_al dr al nd) dr al sz j) c343; exact fun z => z.elim c336 (fun z => by omega))]) (h3 := by rw [la_dp, if_pos (n_le (dp (dr j) + 1) (la_dp dr dp j) c252)]; exact congrArg (mo_W mo_ci am kI kZ _) (bx_uu _ 59 _ _))
                · refine ev_iload_8 346 d_mo_lays_346 ?_
                  refine ev_goto 348 353 d_mo_lays_348 ?_
                  refine ev_istore_5 353 d_mo_lays_353 ?_
                  refine ev_iinc_6 355 d_mo_lays_355 ?_
                  refine ev_goto 358 220 d_mo_lays_358 ?_
                  exact ev_eq (ih (j + 1) _ _ (by omega) (by omega)) (h1 := by rw [n_i1, la_en, if_pos (Or.inr (n_nle (la_o k (la_al dr al nd) (la_en k (la_al dr al nd) dr al sz j) (al (dr j)) + sz (dr j)) (la_en k (la_al dr al nd) dr al sz j) c343))]) (h3 := by rw [la_dp, if_pos (n_le (dp (dr j) + 1) (la_dp dr dp j) c252)]; exact congrArg (mo_W mo_ci am kI kZ _) (bx_uu _ 59 _ _))
          · refine ev_iload_5 286 d_mo_lays_286 ?_
            refine ev_aload_0 288 d_mo_lays_288 ?_
            refine mo_getr 289 3 5 d_mo_lays_289 lk_19 ?_
            refine ev_iload_7 292 d_mo_lays_292 ?_
            refine mo_aldn (j := dr j) 294 3 5 d_mo_lays_294 (by exact (hdr j (by omega)).2) ?_
            refine ev_topi (nI (al (dr j))) haj.1 ?_
            refine mo_scalli2 295 d_mo_lays_295 hZ kc_173 (mt_upTo hZ _ _ (fun z => absurd ((n_z (by omega)).mp z) (by omega))) (fun y F9 B9 h => ?_)
            obtain ⟨rfl, e1, e2⟩ := h
            subst F9
            subst B9
            refine ev_topi (nI (mo_ut (la_en k (la_al dr al nd) dr al sz j) (al (dr j)))) (mo_ut_eq (by omega) (by omega) (by omega)) ?_
            refine ev_goto 298 315 d_mo_lays_298 ?_
            refine ev_topi (nI (la_o k (la_al dr al nd) (la_en k (la_al dr al nd) dr al sz j) (al (dr j)))) (by rw [la_o, if_pos c283]) ?_
            refine mo_astn (j := j) 315 41 59 d_mo_lays_315 (by show j < 6; omega) ?_
            refine ev_aload_0 316 d_mo_lays_316 ?_
            refine mo_getr 317 41 59 d_mo_lays_317 lk_138 ?_
            refine ev_iload_6 320 d_mo_lays_320 ?_
            refine mo_aldn (j := j) 322 41 59 d_mo_lays_322 (by show j < 6; omega) ?_
            refine ev_topi (nI (la_o k (la_al dr al nd) (la_en k (la_al dr al nd) dr al sz j) (al (dr j)))) (by simp only [va_up, upd, if_true]) ?_
            refine ev_aload_0 323 d_mo_lays_323 ?_
            refine mo_getr 324 2 4 d_mo_lays_324 lk_16 ?_
            refine ev_iload_7 327 d_mo_lays_327 ?_
            refine mo_aldn (j := dr j) 329 2 4 d_mo_lays_329 (by exact (hdr j (by omega)).2) ?_
            refine ev_topi (nI (sz (dr j))) hsj.1 ?_
            refine ev_iadd 330 d_mo_lays_330 ?_
            rw [nI_add]
            refine ev_istore_8 331 d_mo_lays_331 ?_
            refine ev_iload_1 333 d_mo_lays_333 ?_
            refine ev_bipush (9) 334 d_mo_lays_334 (by decide) ?_
            refine ev_icmpeq 336 346 d_mo_lays_336 (fun c336 => ?_) (fun c336 => ?_)
            · refine ev_iload_8 346 d_mo_lays_346 ?_
              refine ev_goto 348 353 d_mo_lays_348 ?_
              refine ev_istore_5 353 d_mo_lays_353 ?_
              refine ev_iinc_6 355 d_mo_lays_355 ?_
              refine ev_goto 358 220 d_mo_lays_358 ?_
              exact ev_eq (ih (j + 1) _ _ (by omega) (by omega)) (h1 := by rw [n_i1, la_en, if_pos (Or.inl c336)]) (h3 := by rw [la_dp, if_pos (n_le (dp (dr j) + 1) (la_dp dr dp j) c252)]; exact congrArg (mo_W mo_ci am kI kZ _) (bx_uu _ 59 _ _))
            · refine ev_iload_8 339 d_mo_lays_339 ?_
              refine ev_iload_5 341 d_mo_lays_341 ?_
              refine ev_icmple 343 351 d_mo_lays_343 (fun c343 => ?_) (fun c343 => ?_)
              · refine ev_iload_5 351 d_mo_lays_351 ?_
                refine ev_istore_5 353 d_mo_lays_353 ?_
                refine ev_iinc_6 355 d_mo_lays_355 ?_
                refine ev_goto 358 220 d_mo_lays_358 ?_
                exact ev_eq (ih (j + 1) _ _ (by omega) (by omega)) (h1 := by rw [n_i1, la_en, if_neg (show ¬ (k = 9 ∨ la_en k (la_al dr al nd) dr al sz j < la_o k (la_al dr al nd) (la_en k (la_al dr al nd) dr al sz j) (al (dr j)) + sz (dr j)) by have := n_le (la_o k (la_al dr al nd) (la_en k (la_al dr al nd) dr al sz j) (al (dr j)) + sz (dr j)) (la_en k (la_al dr al nd) dr al sz j) c343; exact fun z => z.elim c336 (fun z => by omega))]) (h3 := by rw [la_dp, if_pos (n_le (dp (dr j) + 1) (la_dp dr dp j) c252)]; exact congrArg (mo_W mo_ci am kI kZ _) (bx_uu _ 59 _ _))
              · refine ev_iload_8 346 d_mo_lays_346 ?_
                refine ev_goto 348 353 d_mo_lays_348 ?_
                refine ev_istore_5 353 d_mo_lays_353 ?_
                refine ev_iinc_6 355 d_mo_lays_355 ?_
                refine ev_goto 358 220 d_mo_lays_358 ?_
                exact ev_eq (ih (j + 1) _ _ (by omega) (by omega)) (h1 := by rw [n_i1, la_en, if_pos (Or.inr (n_nle (la_o k (la_al dr al nd) (la_en k (la_al dr al nd) dr al sz j) (al (dr j)) + sz (dr j)) (la_en k (la_al dr al nd) dr al sz j) c343))]) (h3 := by rw [la_dp, if_pos (n_le (dp (dr j) + 1) (la_dp dr dp j) c252)]; exact congrArg (mo_W mo_ci am kI kZ _) (bx_uu _ 59 _ _))
        · refine ev_aload_0 255 d_mo_lays_255 ?_
          refine mo_getr 256 4 6 d_mo_lays_256 lk_22 ?_
          refine ev_iload_7 259 d_mo_lays_259 ?_
          refine mo_aldn (j := dr j) 261 4 6 d_mo_lays_261 (by exact (hdr j (by omega)).2) ?_
          refine ev_topi (nI (dp (dr j))) hdj.1 ?_
          refine ev_iconst_1 262 d_mo_lays_262 ?_
          refine ev_iadd 263 d_mo_lays_263 ?_
          rw [nI_1]
          refine ev_goto 264 271 d_mo_lays_264 ?_
          refine mo_puti 271 56 d_mo_lays_271 lp_160 ?_
          rw [mo_l3a]
          refine ev_aload_0 274 d_mo_lays_274 ?_
          refine mo_getr 275 41 59 d_mo_lays_275 lk_138 ?_
          refine ev_iload_6 278 d_mo_lays_278 ?_
          refine ev_iload_1 280 d_mo_lays_280 ?_
          refine ev_bipush (9) 281 d_mo_lays_281 (by decide) ?_
          refine ev_icmpne 283 301 d_mo_lays_283 (fun c283 => ?_) (fun c283 => ?_)
          · refine ev_iload_1 301 d_mo_lays_301 ?_
            refine ev_bipush (10) 302 d_mo_lays_302 (by decide) ?_
            refine ev_icmpne 304 314 d_mo_lays_304 (fun c304 => ?_) (fun c304 => ?_)
            · refine ev_iconst_0 314 d_mo_lays_314 ?_
              refine ev_topi (nI (la_o k (la_al dr al nd) (la_en k (la_al dr al nd) dr al sz j) (al (dr j)))) (by rw [la_o, if_neg c283, if_neg c304]; rfl) ?_
              refine mo_astn (j := j) 315 41 59 d_mo_lays_315 (by show j < 6; omega) ?_
              refine ev_aload_0 316 d_mo_lays_316 ?_
              refine mo_getr 317 41 59 d_mo_lays_317 lk_138 ?_
              refine ev_iload_6 320 d_mo_lays_320 ?_
              refine mo_aldn (j := j) 322 41 59 d_mo_lays_322 (by show j < 6; omega) ?_
              refine ev_topi (nI (la_o k (la_al dr al nd) (la_en k (la_al dr al nd) dr al sz j) (al (dr j)))) (by simp only [va_up, upd, if_true]) ?_
              refine ev_aload_0 323 d_mo_lays_323 ?_
              refine mo_getr 324 2 4 d_mo_lays_324 lk_16 ?_
              refine ev_iload_7 327 d_mo_lays_327 ?_
              refine mo_aldn (j := dr j) 329 2 4 d_mo_lays_329 (by exact (hdr j (by omega)).2) ?_
              refine ev_topi (nI (sz (dr j))) hsj.1 ?_
              refine ev_iadd 330 d_mo_lays_330 ?_
              rw [nI_add]
              refine ev_istore_8 331 d_mo_lays_331 ?_
              refine ev_iload_1 333 d_mo_lays_333 ?_
              refine ev_bipush (9) 334 d_mo_lays_334 (by decide) ?_
              refine ev_icmpeq 336 346 d_mo_lays_336 (fun c336 => ?_) (fun c336 => ?_)
              · refine ev_iload_8 346 d_mo_lays_346 ?_
                refine ev_goto 348 353 d_mo_lays_348 ?_
                refine ev_istore_5 353 d_mo_lays_353 ?_
                refine ev_iinc_6 355 d_mo_lays_355 ?_
                refine ev_goto 358 220 d_mo_lays_358 ?_
                exact ev_eq (ih (j + 1) _ _ (by omega) (by omega)) (h1 := by rw [n_i1, la_en, if_pos (Or.inl c336)]) (h3 := by rw [la_dp, if_neg (show ¬ dp (dr j) + 1 ≤ la_dp dr dp j by have := n_nle (dp (dr j) + 1) (la_dp dr dp j) c252; omega)]; exact congrArg (mo_W mo_ci am kI kZ _) (bx_uu _ 59 _ _))
              · refine ev_iload_8 339 d_mo_lays_339 ?_
                refine ev_iload_5 341 d_mo_lays_341 ?_
                refine ev_icmple 343 351 d_mo_lays_343 (fun c343 => ?_) (fun c343 => ?_)
                · refine ev_iload_5 351 d_mo_lays_351 ?_
                  refine ev_istore_5 353 d_mo_lays_353 ?_
                  refine ev_iinc_6 355 d_mo_lays_355 ?_
                  refine ev_goto 358 220 d_mo_lays_358 ?_
                  exact ev_eq (ih (j + 1) _ _ (by omega) (by omega)) (h1 := by rw [n_i1, la_en, if_neg (show ¬ (k = 9 ∨ la_en k (la_al dr al nd) dr al sz j < la_o k (la_al dr al nd) (la_en k (la_al dr al nd) dr al sz j) (al (dr j)) + sz (dr j)) by have := n_le (la_o k (la_al dr al nd) (la_en k (la_al dr al nd) dr al sz j) (al (dr j)) + sz (dr j)) (la_en k (la_al dr al nd) dr al sz j) c343; exact fun z => z.elim c336 (fun z => by omega))]) (h3 := by rw [la_dp, if_neg (show ¬ dp (dr j) + 1 ≤ la_dp dr dp j by have := n_nle (dp (dr j) + 1) (la_dp dr dp j) c252; omega)]; exact congrArg (mo_W mo_ci am kI kZ _) (bx_uu _ 59 _ _))
                · refine ev_iload_8 346 d_mo_lays_346 ?_
                  refine ev_goto 348 353 d_mo_lays_348 ?_
                  refine ev_istore_5 353 d_mo_lays_353 ?_
                  refine ev_iinc_6 355 d_mo_lays_355 ?_
                  refine ev_goto 358 220 d_mo_lays_358 ?_
                  exact ev_eq (ih (j + 1) _ _ (by omega) (by omega)) (h1 := by rw [n_i1, la_en, if_pos (Or.inr (n_nle (la_o k (la_al dr al nd) (la_en k (la_al dr al nd) dr al sz j) (al (dr j)) + sz (dr j)) (la_en k (la_al dr al nd) dr al sz j) c343))]) (h3 := by rw [la_dp, if_neg (show ¬ dp (dr j) + 1 ≤ la_dp dr dp j by have := n_nle (dp (dr j) + 1) (la_dp dr dp j) c252; omega)]; exact congrArg (mo_W mo_ci am kI kZ _) (bx_uu _ 59 _ _))
            · refine ev_aload_0 307 d_mo_lays_307 ?_
              refine mo_geti 308 57 d_mo_lays_308 lk_167 ?_
              refine ev_goto 311 315 d_mo_lays_311 ?_
              refine ev_topi (nI (la_o k (la_al dr al nd) (la_en k (la_al dr al nd) dr al sz j) (al (dr j)))) (by rw [la_o, if_neg c283, if_pos c304]; show (if k = 9 ∨ k = 10 then nI (la_al dr al nd) else la_a0 k) = _; rw [if_pos (Or.inr c304)]) ?_
              refine mo_astn (j := j) 315 41 59 d_mo_lays_315 (by show j < 6; omega) ?_
              refine ev_aload_0 316 d_mo_lays_316 ?_
              refine mo_getr 317 41 59 d_mo_lays_317 lk_138 ?_
              refine ev_iload_6 320 d_mo_lays_320 ?_
              refine mo_aldn (j := j) 322 41 59 d_mo_lays_322 (by show j < 6; omega) ?_
              refine ev_topi (nI (la_o k (la_al dr al nd) (la_en k (la_al dr al nd) dr al sz j) (al (dr j)))) (by simp only [va_up, upd, if_true]) ?_
              refine ev_aload_0 323 d_mo_lays_323 ?_
              refine mo_getr 324 2 4 d_mo_lays_324 lk_16 ?_
              refine ev_iload_7 327 d_mo_lays_327 ?_
              refine mo_aldn (j := dr j) 329 2 4 d_mo_lays_329 (by exact (hdr j (by omega)).2) ?_
              refine ev_topi (nI (sz (dr j))) hsj.1 ?_
              refine ev_iadd 330 d_mo_lays_330 ?_
              rw [nI_add]
              refine ev_istore_8 331 d_mo_lays_331 ?_
              refine ev_iload_1 333 d_mo_lays_333 ?_
              refine ev_bipush (9) 334 d_mo_lays_334 (by decide) ?_
              refine ev_icmpeq 336 346 d_mo_lays_336 (fun c336 => ?_) (fun c336 => ?_)
              · refine ev_iload_8 346 d_mo_lays_346 ?_
                refine ev_goto 348 353 d_mo_lays_348 ?_
                refine ev_istore_5 353 d_mo_lays_353 ?_
                refine ev_iinc_6 355 d_mo_lays_355 ?_
                refine ev_goto 358 220 d_mo_lays_358 ?_
                exact ev_eq (ih (j + 1) _ _ (by omega) (by omega)) (h1 := by rw [n_i1, la_en, if_pos (Or.inl c336)]) (h3 := by rw [la_dp, if_neg (show ¬ dp (dr j) + 1 ≤ la_dp dr dp j by have := n_nle (dp (dr j) + 1) (la_dp dr dp j) c252; omega)]; exact congrArg (mo_W mo_ci am kI kZ _) (bx_uu _ 59 _ _))
              · refine ev_iload_8 339 d_mo_lays_339 ?_
                refine ev_iload_5 341 d_mo_lays_341 ?_
                refine ev_icmple 343 351 d_mo_lays_343 (fun c343 => ?_) (fun c343 => ?_)
                · refine ev_iload_5 351 d_mo_lays_351 ?_
                  refine ev_istore_5 353 d_mo_lays_353 ?_
                  refine ev_iinc_6 355 d_mo_lays_355 ?_
                  refine ev_goto 358 220 d_mo_lays_358 ?_
                  exact ev_eq (ih (j + 1) _ _ (by omega) (by omega)) (h1 := by rw [n_i1, la_en, if_neg (show ¬ (k = 9 ∨ la_en k (la_al dr al nd) dr al sz j < la_o k (la_al dr al nd) (la_en k (la_al dr al nd) dr al sz j) (al (dr j)) + sz (dr j)) by have := n_le (la_o k (la_al dr al nd) (la_en k (la_al dr al nd) dr al sz j) (al (dr j)) + sz (dr j)) (la_en k (la_al dr al nd) dr al sz j) c343; exact fun z => z.elim c336 (fun z => by omega))]) (h3 := by rw [la_dp, if_neg (show ¬ dp (dr j) + 1 ≤ la_dp dr dp j by have := n_nle (dp (dr j) + 1) (la_dp dr dp j) c252; omega)]; exact congrArg (mo_W mo_ci am kI kZ _) (bx_uu _ 59 _ _))
                · refine ev_iload_8 346 d_mo_lays_346 ?_
                  refine ev_goto 348 353 d_mo_lays_348 ?_
                  refine ev_istore_5 353 d_mo_lays_353 ?_
                  refine ev_iinc_6 355 d_mo_lays_355 ?_
                  refine ev_goto 358 220 d_mo_lays_358 ?_
                  exact ev_eq (ih (j + 1) _ _ (by omega) (by omega)) (h1 := by rw [n_i1, la_en, if_pos (Or.inr (n_nle (la_o k (la_al dr al nd) (la_en k (la_al dr al nd) dr al sz j) (al (dr j)) + sz (dr j)) (la_en k (la_al dr al nd) dr al sz j) c343))]) (h3 := by rw [la_dp, if_neg (show ¬ dp (dr j) + 1 ≤ la_dp dr dp j by have := n_nle (dp (dr j) + 1) (la_dp dr dp j) c252; omega)]; exact congrArg (mo_W mo_ci am kI kZ _) (bx_uu _ 59 _ _))
          · refine ev_iload_5 286 d_mo_lays_286 ?_
            refine ev_aload_0 288 d_mo_lays_288 ?_
            refine mo_getr 289 3 5 d_mo_lays_289 lk_19 ?_
            refine ev_iload_7 292 d_mo_lays_292 ?_
            refine mo_aldn (j := dr j) 294 3 5 d_mo_lays_294 (by exact (hdr j (by omega)).2) ?_
            refine ev_topi (nI (al (dr j))) haj.1 ?_
            refine mo_scalli2 295 d_mo_lays_295 hZ kc_173 (mt_upTo hZ _ _ (fun z => absurd ((n_z (by omega)).mp z) (by omega))) (fun y F9 B9 h => ?_)
            obtain ⟨rfl, e1, e2⟩ := h
            subst F9
            subst B9
            refine ev_topi (nI (mo_ut (la_en k (la_al dr al nd) dr al sz j) (al (dr j)))) (mo_ut_eq (by omega) (by omega) (by omega)) ?_
            refine ev_goto 298 315 d_mo_lays_298 ?_
            refine ev_topi (nI (la_o k (la_al dr al nd) (la_en k (la_al dr al nd) dr al sz j) (al (dr j)))) (by rw [la_o, if_pos c283]) ?_
            refine mo_astn (j := j) 315 41 59 d_mo_lays_315 (by show j < 6; omega) ?_
            refine ev_aload_0 316 d_mo_lays_316 ?_
            refine mo_getr 317 41 59 d_mo_lays_317 lk_138 ?_
            refine ev_iload_6 320 d_mo_lays_320 ?_
            refine mo_aldn (j := j) 322 41 59 d_mo_lays_322 (by show j < 6; omega) ?_
            refine ev_topi (nI (la_o k (la_al dr al nd) (la_en k (la_al dr al nd) dr al sz j) (al (dr j)))) (by simp only [va_up, upd, if_true]) ?_
            refine ev_aload_0 323 d_mo_lays_323 ?_
            refine mo_getr 324 2 4 d_mo_lays_324 lk_16 ?_
            refine ev_iload_7 327 d_mo_lays_327 ?_
            refine mo_aldn (j := dr j) 329 2 4 d_mo_lays_329 (by exact (hdr j (by omega)).2) ?_
            refine ev_topi (nI (sz (dr j))) hsj.1 ?_
            refine ev_iadd 330 d_mo_lays_330 ?_
            rw [nI_add]
            refine ev_istore_8 331 d_mo_lays_331 ?_
            refine ev_iload_1 333 d_mo_lays_333 ?_
            refine ev_bipush (9) 334 d_mo_lays_334 (by decide) ?_
            refine ev_icmpeq 336 346 d_mo_lays_336 (fun c336 => ?_) (fun c336 => ?_)
            · refine ev_iload_8 346 d_mo_lays_346 ?_
              refine ev_goto 348 353 d_mo_lays_348 ?_
              refine ev_istore_5 353 d_mo_lays_353 ?_
              refine ev_iinc_6 355 d_mo_lays_355 ?_
              refine ev_goto 358 220 d_mo_lays_358 ?_
              exact ev_eq (ih (j + 1) _ _ (by omega) (by omega)) (h1 := by rw [n_i1, la_en, if_pos (Or.inl c336)]) (h3 := by rw [la_dp, if_neg (show ¬ dp (dr j) + 1 ≤ la_dp dr dp j by have := n_nle (dp (dr j) + 1) (la_dp dr dp j) c252; omega)]; exact congrArg (mo_W mo_ci am kI kZ _) (bx_uu _ 59 _ _))
            · refine ev_iload_8 339 d_mo_lays_339 ?_
              refine ev_iload_5 341 d_mo_lays_341 ?_
              refine ev_icmple 343 351 d_mo_lays_343 (fun c343 => ?_) (fun c343 => ?_)
              · refine ev_iload_5 351 d_mo_lays_351 ?_
                refine ev_istore_5 353 d_mo_lays_353 ?_
                refine ev_iinc_6 355 d_mo_lays_355 ?_
                refine ev_goto 358 220 d_mo_lays_358 ?_
                exact ev_eq (ih (j + 1) _ _ (by omega) (by omega)) (h1 := by rw [n_i1, la_en, if_neg (show ¬ (k = 9 ∨ la_en k (la_al dr al nd) dr al sz j < la_o k (la_al dr al nd) (la_en k (la_al dr al nd) dr al sz j) (al (dr j)) + sz (dr j)) by have := n_le (la_o k (la_al dr al nd) (la_en k (la_al dr al nd) dr al sz j) (al (dr j)) + sz (dr j)) (la_en k (la_al dr al nd) dr al sz j) c343; exact fun z => z.elim c336 (fun z => by omega))]) (h3 := by rw [la_dp, if_neg (show ¬ dp (dr j) + 1 ≤ la_dp dr dp j by have := n_nle (dp (dr j) + 1) (la_dp dr dp j) c252; omega)]; exact congrArg (mo_W mo_ci am kI kZ _) (bx_uu _ 59 _ _))
              · refine ev_iload_8 346 d_mo_lays_346 ?_
                refine ev_goto 348 353 d_mo_lays_348 ?_
                refine ev_istore_5 353 d_mo_lays_353 ?_
                refine ev_iinc_6 355 d_mo_lays_355 ?_
                refine ev_goto 358 220 d_mo_lays_358 ?_
                exact ev_eq (ih (j + 1) _ _ (by omega) (by omega)) (h1 := by rw [n_i1, la_en, if_pos (Or.inr (n_nle (la_o k (la_al dr al nd) (la_en k (la_al dr al nd) dr al sz j) (al (dr j)) + sz (dr j)) (la_en k (la_al dr al nd) dr al sz j) c343))]) (h3 := by rw [la_dp, if_neg (show ¬ dp (dr j) + 1 ≤ la_dp dr dp j by have := n_nle (dp (dr j) + 1) (la_dp dr dp j) c252; omega)]; exact congrArg (mo_W mo_ci am kI kZ _) (bx_uu _ 59 _ _))
  have M214 : ∀ (mm : Int32), mo_bl mm (k = 9 ∨ k = 10) → la_ft k n (F 10) → ∀ (o5 : Option Value), EV (mo_π l D cl_A kI kZ tl Z) m_lays (ev_E (mo_π l D cl_A kI kZ tl Z) 0 0 (mo_qi am kI kZ (fun x F1 B1 => (¬ la_ft k n (F 10) ∧ x = 0 ∧ F1 = F ∧ B1 = B) ∨ (la_ft k n (F 10) ∧ mo_bl x (¬ 5 < nI (la_dp dr dp nd) ∧ ¬ 96 < (if k = 9 ∨ k = 10 then nI (mo_ut (la_en k (la_al dr al nd) dr al sz nd) (la_al dr al nd)) else mo_psz k)) ∧ F1 = mo_l3 F (nI (la_dp dr dp nd)) (if k = 9 ∨ k = 10 then nI (la_al dr al nd) else la_a0 k) (if k = 9 ∨ k = 10 then nI (mo_ut (la_en k (la_al dr al nd) dr al sz nd) (la_al dr al nd)) else mo_psz k) ∧ B1 = va_up B 59 (la_os k (la_al dr al nd) dr al sz (B 59) nd))))) 0 0 214 [some (.ref (am 60)), some (.int k), some (.int n), some (.int mm), some (.int 1), o5, none, none, none] [] (mo_W mo_ci am kI kZ (mo_l3 F 1 (if k = 9 ∨ k = 10 then nI (la_al dr al nd) else la_a0 k) (mo_psz k)) B) := by
    intro mm hmm hft o5
    refine ev_iconst_0 214 d_mo_lays_214 ?_
    refine ev_istore_5 215 d_mo_lays_215 ?_
    refine ev_iconst_0 217 d_mo_lays_217 ?_
    refine ev_istore_6 218 d_mo_lays_218 ?_
    exact ev_eq (L220 mm hmm hft (nd + 1) 0 none none (by omega) (by omega)) (h3 := congrArg (mo_W mo_ci am kI kZ _) (mo_upid B 59).symm)
  have L157 : ∀ (mm : Int32), mo_bl mm (k = 9 ∨ k = 10) → (k = 9 ∨ k = 10) → la_ft k n (F 10) → ∀ (m j : Nat), nd - j < m → j ≤ nd → EV (mo_π l D cl_A kI kZ tl Z) m_lays (ev_E (mo_π l D cl_A kI kZ tl Z) 0 0 (mo_qi am kI kZ (fun x F1 B1 => (¬ la_ft k n (F 10) ∧ x = 0 ∧ F1 = F ∧ B1 = B) ∨ (la_ft k n (F 10) ∧ mo_bl x (¬ 5 < nI (la_dp dr dp nd) ∧ ¬ 96 < (if k = 9 ∨ k = 10 then nI (mo_ut (la_en k (la_al dr al nd) dr al sz nd) (la_al dr al nd)) else mo_psz k)) ∧ F1 = mo_l3 F (nI (la_dp dr dp nd)) (if k = 9 ∨ k = 10 then nI (la_al dr al nd) else la_a0 k) (if k = 9 ∨ k = 10 then nI (mo_ut (la_en k (la_al dr al nd) dr al sz nd) (la_al dr al nd)) else mo_psz k) ∧ B1 = va_up B 59 (la_os k (la_al dr al nd) dr al sz (B 59) nd))))) 0 0 157 [some (.ref (am 60)), some (.int k), some (.int n), some (.int mm), some (.int 1), some (.int (nI j)), none, none, none] [] (mo_W mo_ci am kI kZ (mo_l3 F 1 (nI (la_al dr al j)) (mo_psz k)) B) := by
    intro mm hmm hmn hft m
    induction m with
    | zero => intro j h; omega
    | succ m ih =>
      intro j hm hj
      have hlj := hal8 j hj
      refine ev_iload_5 157 d_mo_lays_157 ?_
      refine ev_aload_0 159 d_mo_lays_159 ?_
      refine mo_geti 160 10 d_mo_lays_160 lk_154 ?_
      refine ev_icmpge 163 214 d_mo_lays_163 (fun c163 => ?_) (fun c163 => ?_)
      · have h163 := n_le nd j c163 hnd
        have ej : j = nd := by omega
        subst j
        exact ev_eq (M214 mm hmm hft _) (h3 := by rw [if_pos hmn])
      · have h163 := n_nle nd j c163 hnd
        refine ev_aload_0 166 d_mo_lays_166 ?_
        refine ev_aload_0 167 d_mo_lays_167 ?_
        refine mo_getr 168 3 5 d_mo_lays_168 lk_19 ?_
        refine ev_aload_0 171 d_mo_lays_171 ?_
        refine mo_getr 172 8 11 d_mo_lays_172 lk_34 ?_
        refine ev_iload_5 175 d_mo_lays_175 ?_
        refine mo_aldn (j := j) 177 8 11 d_mo_lays_177 (by show j < 6; omega) ?_
        refine ev_topi (nI (dr j)) (by exact (hdr j (by omega)).1) ?_
        refine mo_aldn (j := dr j) 178 3 5 d_mo_lays_178 (by exact (hdr j (by omega)).2) ?_
        have haj := hal j (by omega)
        refine ev_topi (nI (al (dr j))) haj.1 ?_
        refine ev_aload_0 179 d_mo_lays_179 ?_
        refine mo_geti 180 57 d_mo_lays_180 lk_167 ?_
        refine ev_icmple 183 201 d_mo_lays_183 (fun c183 => ?_) (fun c183 => ?_)
        · refine ev_aload_0 201 d_mo_lays_201 ?_
          refine mo_geti 202 57 d_mo_lays_202 lk_167 ?_
          refine mo_puti 205 57 d_mo_lays_205 lp_167 ?_
          refine ev_iinc_5 208 d_mo_lays_208 ?_
          refine ev_goto 211 157 d_mo_lays_211 ?_
          exact ev_eq (ih (j + 1) (by omega) (by omega)) (h1 := by rw [n_i1]) (h3 := by rw [mo_l3b, la_al, if_pos (n_le (al (dr j)) (la_al dr al j) c183)] <;> rfl)
        · refine ev_aload_0 186 d_mo_lays_186 ?_
          refine mo_getr 187 3 5 d_mo_lays_187 lk_19 ?_
          refine ev_aload_0 190 d_mo_lays_190 ?_
          refine mo_getr 191 8 11 d_mo_lays_191 lk_34 ?_
          refine ev_iload_5 194 d_mo_lays_194 ?_
          refine mo_aldn (j := j) 196 8 11 d_mo_lays_196 (by show j < 6; omega) ?_
          refine ev_topi (nI (dr j)) (by exact (hdr j (by omega)).1) ?_
          refine mo_aldn (j := dr j) 197 3 5 d_mo_lays_197 (by exact (hdr j (by omega)).2) ?_
          refine ev_topi (nI (al (dr j))) haj.1 ?_
          refine ev_goto 198 205 d_mo_lays_198 ?_
          refine mo_puti 205 57 d_mo_lays_205 lp_167 ?_
          refine ev_iinc_5 208 d_mo_lays_208 ?_
          refine ev_goto 211 157 d_mo_lays_211 ?_
          exact ev_eq (ih (j + 1) (by omega) (by omega)) (h1 := by rw [n_i1]) (h3 := by rw [mo_l3b, la_al, if_neg (show ¬ al (dr j) ≤ la_al dr al j by have := n_nle (al (dr j)) (la_al dr al j) c183; omega)] <;> rfl)
  have M99 : ∀ (mm v : Int32), mo_bl mm (k = 9 ∨ k = 10) → mo_bl v (la_ft k n (F 10)) → EV (mo_π l D cl_A kI kZ tl Z) m_lays (ev_E (mo_π l D cl_A kI kZ tl Z) 0 0 (mo_qi am kI kZ (fun x F1 B1 => (¬ la_ft k n (F 10) ∧ x = 0 ∧ F1 = F ∧ B1 = B) ∨ (la_ft k n (F 10) ∧ mo_bl x (¬ 5 < nI (la_dp dr dp nd) ∧ ¬ 96 < (if k = 9 ∨ k = 10 then nI (mo_ut (la_en k (la_al dr al nd) dr al sz nd) (la_al dr al nd)) else mo_psz k)) ∧ F1 = mo_l3 F (nI (la_dp dr dp nd)) (if k = 9 ∨ k = 10 then nI (la_al dr al nd) else la_a0 k) (if k = 9 ∨ k = 10 then nI (mo_ut (la_en k (la_al dr al nd) dr al sz nd) (la_al dr al nd)) else mo_psz k) ∧ B1 = va_up B 59 (la_os k (la_al dr al nd) dr al sz (B 59) nd))))) 0 0 99 [some (.ref (am 60)), some (.int k), some (.int n), some (.int mm), none, none, none, none, none] [.int v] (mo_W mo_ci am kI kZ F B) := by
    intro mm v hmm hv
    refine ev_istore_4 99 d_mo_lays_99 ?_
    refine ev_iload_4 101 d_mo_lays_101 ?_
    refine ev_ifne 103 108 d_mo_lays_103 (fun c103 => ?_) (fun c103 => ?_)
    · have hft := mo_b1 hv c103
      obtain rfl : v = 1 := by rcases hv with ⟨z, -⟩ | ⟨z, -⟩
                               · exact z
                               · exact absurd z c103
      refine ev_aload_0 108 d_mo_lays_108 ?_
      refine ev_iconst_1 109 d_mo_lays_109 ?_
      refine mo_puti 110 56 d_mo_lays_110 lp_160 ?_
      refine ev_aload_0 113 d_mo_lays_113 ?_
      refine ev_iload_1 114 d_mo_lays_114 ?_
      refine ev_bipush (6) 115 d_mo_lays_115 (by decide) ?_
      refine ev_icmpeq 117 126 d_mo_lays_117 (fun c117 => ?_) (fun c117 => ?_)
      · refine ev_iconst_2 126 d_mo_lays_126 ?_
        refine ev_goto 127 134 d_mo_lays_127 ?_
        refine ev_topi (la_a0 k) (by rw [la_a0, if_pos (Or.inl c117)]) ?_
        refine mo_puti 134 57 d_mo_lays_134 lp_167 ?_
        refine ev_aload_0 137 d_mo_lays_137 ?_
        refine ev_iload_1 138 d_mo_lays_138 ?_
        refine mo_scalli1 139 d_mo_lays_139 hZ kc_163 (mt_plainSize hZ _) (fun y F9 B9 h => ?_)
        obtain ⟨rfl, e1, e2⟩ := h
        subst F9
        subst B9
        refine mo_puti 142 58 d_mo_lays_142 lp_170 ?_
        refine ev_iload_3 145 d_mo_lays_145 ?_
        refine ev_ifeq 146 214 d_mo_lays_146 (fun c146 => ?_) (fun c146 => ?_)
        · exact ev_eq (M214 mm hmm hft none) (h3 := by rw [if_neg (mo_b0 hmm c146)]; rfl)
        · refine ev_aload_0 149 d_mo_lays_149 ?_
          refine ev_iconst_1 150 d_mo_lays_150 ?_
          refine mo_puti 151 57 d_mo_lays_151 lp_167 ?_
          refine ev_iconst_0 154 d_mo_lays_154 ?_
          refine ev_istore_5 155 d_mo_lays_155 ?_
          rw [show upd (upd (upd (upd F 56 1) 57 (la_a0 k)) 58 (mo_psz k)) 57 1 = mo_l3 F 1 1 (mo_psz k) from mo_l3b F 1 _ _ 1]
          exact L157 mm hmm (mo_b1 hmm c146) hft (nd + 1) 0 (by omega) (by omega)
      · refine ev_iload_1 120 d_mo_lays_120 ?_
        refine ev_bipush (8) 121 d_mo_lays_121 (by decide) ?_
        refine ev_icmpne 123 130 d_mo_lays_123 (fun c123 => ?_) (fun c123 => ?_)
        · refine ev_iload_1 130 d_mo_lays_130 ?_
          refine mo_scalli1 131 d_mo_lays_131 hZ kc_163 (mt_plainSize hZ _) (fun y F9 B9 h => ?_)
          obtain ⟨rfl, e1, e2⟩ := h
          subst F9
          subst B9
          refine ev_topi (la_a0 k) (by rw [la_a0, if_neg (fun z => z.elim c117 c123)]) ?_
          refine mo_puti 134 57 d_mo_lays_134 lp_167 ?_
          refine ev_aload_0 137 d_mo_lays_137 ?_
          refine ev_iload_1 138 d_mo_lays_138 ?_
          refine mo_scalli1 139 d_mo_lays_139 hZ kc_163 (mt_plainSize hZ _) (fun y F9 B9 h => ?_)
          obtain ⟨rfl, e1, e2⟩ := h
          subst F9
          subst B9
          refine mo_puti 142 58 d_mo_lays_142 lp_170 ?_
          refine ev_iload_3 145 d_mo_lays_145 ?_
          refine ev_ifeq 146 214 d_mo_lays_146 (fun c146 => ?_) (fun c146 => ?_)
          · exact ev_eq (M214 mm hmm hft none) (h3 := by rw [if_neg (mo_b0 hmm c146)]; rfl)
          · refine ev_aload_0 149 d_mo_lays_149 ?_
            refine ev_iconst_1 150 d_mo_lays_150 ?_
            refine mo_puti 151 57 d_mo_lays_151 lp_167 ?_
            refine ev_iconst_0 154 d_mo_lays_154 ?_
            refine ev_istore_5 155 d_mo_lays_155 ?_
            rw [show upd (upd (upd (upd F 56 1) 57 (la_a0 k)) 58 (mo_psz k)) 57 1 = mo_l3 F 1 1 (mo_psz k) from mo_l3b F 1 _ _ 1]
            exact L157 mm hmm (mo_b1 hmm c146) hft (nd + 1) 0 (by omega) (by omega)
        · refine ev_iconst_2 126 d_mo_lays_126 ?_
          refine ev_goto 127 134 d_mo_lays_127 ?_
          refine ev_topi (la_a0 k) (by rw [la_a0, if_pos (Or.inr c123)]) ?_
          refine mo_puti 134 57 d_mo_lays_134 lp_167 ?_
          refine ev_aload_0 137 d_mo_lays_137 ?_
          refine ev_iload_1 138 d_mo_lays_138 ?_
          refine mo_scalli1 139 d_mo_lays_139 hZ kc_163 (mt_plainSize hZ _) (fun y F9 B9 h => ?_)
          obtain ⟨rfl, e1, e2⟩ := h
          subst F9
          subst B9
          refine mo_puti 142 58 d_mo_lays_142 lp_170 ?_
          refine ev_iload_3 145 d_mo_lays_145 ?_
          refine ev_ifeq 146 214 d_mo_lays_146 (fun c146 => ?_) (fun c146 => ?_)
          · exact ev_eq (M214 mm hmm hft none) (h3 := by rw [if_neg (mo_b0 hmm c146)]; rfl)
          · refine ev_aload_0 149 d_mo_lays_149 ?_
            refine ev_iconst_1 150 d_mo_lays_150 ?_
            refine mo_puti 151 57 d_mo_lays_151 lp_167 ?_
            refine ev_iconst_0 154 d_mo_lays_154 ?_
            refine ev_istore_5 155 d_mo_lays_155 ?_
            rw [show upd (upd (upd (upd F 56 1) 57 (la_a0 k)) 58 (mo_psz k)) 57 1 = mo_l3 F 1 1 (mo_psz k) from mo_l3b F 1 _ _ 1]
            exact L157 mm hmm (mo_b1 hmm c146) hft (nd + 1) 0 (by omega) (by omega)
    · have hft := mo_b0 hv c103
      refine ev_iconst_0 106 d_mo_lays_106 ?_
      refine ev_zret 107 d_mo_lays_107 rfl ?_ ?_
      · rfl
      exact ⟨_, _, _, rfl, rfl, Or.inl ⟨hft, rfl, rfl, rfl⟩⟩
  refine ev_iload_1 0 d_mo_lays_0 ?_
  refine ev_bipush (9) 1 d_mo_lays_1 (by decide) ?_
  refine ev_icmpeq 3 12 d_mo_lays_3 (fun c3 => ?_) (fun c3 => ?_)
  · refine ev_iconst_1 12 d_mo_lays_12 ?_
    refine ev_goto 13 17 d_mo_lays_13 ?_
    refine ev_istore_3 17 d_mo_lays_17 ?_
    refine ev_iload_1 18 d_mo_lays_18 ?_
    refine ev_iflt 19 98 d_mo_lays_19 (fun c19 => ?_) (fun c19 => ?_)
    · refine ev_iconst_0 98 d_mo_lays_98 ?_
      exact M99 _ _ (Or.inl ⟨rfl, Or.inl c3⟩) (by unfold mo_bl la_ft; grind)
    · refine ev_iload_1 22 d_mo_lays_22 ?_
      refine ev_bipush (12) 23 d_mo_lays_23 (by decide) ?_
      refine ev_icmpgt 25 98 d_mo_lays_25 (fun c25 => ?_) (fun c25 => ?_)
      · refine ev_iconst_0 98 d_mo_lays_98 ?_
        exact M99 _ _ (Or.inl ⟨rfl, Or.inl c3⟩) (by unfold mo_bl la_ft; grind)
      · refine ev_iload_3 28 d_mo_lays_28 ?_
        refine ev_ifeq 29 43 d_mo_lays_29 (fun c29 => ?_) (fun c29 => ?_)
        · exact absurd c29 (by decide)
        · refine ev_aload_0 32 d_mo_lays_32 ?_
          refine mo_geti 33 10 d_mo_lays_33 lk_154 ?_
          refine ev_iconst_1 36 d_mo_lays_36 ?_
          refine ev_icmplt 37 98 d_mo_lays_37 (fun c37 => ?_) (fun c37 => ?_)
          · refine ev_iconst_0 98 d_mo_lays_98 ?_
            exact M99 _ _ (Or.inl ⟨rfl, Or.inl c3⟩) (by unfold mo_bl la_ft; grind)
          · refine ev_goto 40 61 d_mo_lays_40 ?_
            refine ev_iload_1 61 d_mo_lays_61 ?_
            refine ev_bipush (7) 62 d_mo_lays_62 (by decide) ?_
            refine ev_icmpne 64 79 d_mo_lays_64 (fun c64 => ?_) (fun c64 => ?_)
            · refine ev_iload_1 79 d_mo_lays_79 ?_
              refine ev_bipush (11) 80 d_mo_lays_80 (by decide) ?_
              refine ev_icmplt 82 94 d_mo_lays_82 (fun c82 => ?_) (fun c82 => ?_)
              · refine ev_iconst_1 94 d_mo_lays_94 ?_
                refine ev_goto 95 99 d_mo_lays_95 ?_
                exact M99 _ _ (Or.inl ⟨rfl, Or.inl c3⟩) (by unfold mo_bl la_ft; grind)
              · refine ev_iload_2 85 d_mo_lays_85 ?_
                refine ev_iflt 86 98 d_mo_lays_86 (fun c86 => ?_) (fun c86 => ?_)
                · refine ev_iconst_0 98 d_mo_lays_98 ?_
                  exact M99 _ _ (Or.inl ⟨rfl, Or.inl c3⟩) (by unfold mo_bl la_ft; grind)
                · refine ev_iload_2 89 d_mo_lays_89 ?_
                  refine ev_iconst_3 90 d_mo_lays_90 ?_
                  refine ev_icmpgt 91 98 d_mo_lays_91 (fun c91 => ?_) (fun c91 => ?_)
                  · refine ev_iconst_0 98 d_mo_lays_98 ?_
                    exact M99 _ _ (Or.inl ⟨rfl, Or.inl c3⟩) (by unfold mo_bl la_ft; grind)
                  · refine ev_iconst_1 94 d_mo_lays_94 ?_
                    refine ev_goto 95 99 d_mo_lays_95 ?_
                    exact M99 _ _ (Or.inl ⟨rfl, Or.inl c3⟩) (by unfold mo_bl la_ft; grind)
            · refine ev_iload_2 67 d_mo_lays_67 ?_
              refine ev_iconst_1 68 d_mo_lays_68 ?_
              refine ev_icmplt 69 98 d_mo_lays_69 (fun c69 => ?_) (fun c69 => ?_)
              · refine ev_iconst_0 98 d_mo_lays_98 ?_
                exact M99 _ _ (Or.inl ⟨rfl, Or.inl c3⟩) (by unfold mo_bl la_ft; grind)
              · refine ev_iload_2 72 d_mo_lays_72 ?_
                refine ev_sipush (200) 73 d_mo_lays_73 (by decide) ?_
                refine ev_icmpgt 76 98 d_mo_lays_76 (fun c76 => ?_) (fun c76 => ?_)
                · refine ev_iconst_0 98 d_mo_lays_98 ?_
                  exact M99 _ _ (Or.inl ⟨rfl, Or.inl c3⟩) (by unfold mo_bl la_ft; grind)
                · refine ev_iload_1 79 d_mo_lays_79 ?_
                  refine ev_bipush (11) 80 d_mo_lays_80 (by decide) ?_
                  refine ev_icmplt 82 94 d_mo_lays_82 (fun c82 => ?_) (fun c82 => ?_)
                  · refine ev_iconst_1 94 d_mo_lays_94 ?_
                    refine ev_goto 95 99 d_mo_lays_95 ?_
                    exact M99 _ _ (Or.inl ⟨rfl, Or.inl c3⟩) (by unfold mo_bl la_ft; grind)
                  · refine ev_iload_2 85 d_mo_lays_85 ?_
                    refine ev_iflt 86 98 d_mo_lays_86 (fun c86 => ?_) (fun c86 => ?_)
                    · refine ev_iconst_0 98 d_mo_lays_98 ?_
                      exact M99 _ _ (Or.inl ⟨rfl, Or.inl c3⟩) (by unfold mo_bl la_ft; grind)
                    · refine ev_iload_2 89 d_mo_lays_89 ?_
                      refine ev_iconst_3 90 d_mo_lays_90 ?_
                      refine ev_icmpgt 91 98 d_mo_lays_91 (fun c91 => ?_) (fun c91 => ?_)
                      · refine ev_iconst_0 98 d_mo_lays_98 ?_
                        exact M99 _ _ (Or.inl ⟨rfl, Or.inl c3⟩) (by unfold mo_bl la_ft; grind)
                      · refine ev_iconst_1 94 d_mo_lays_94 ?_
                        refine ev_goto 95 99 d_mo_lays_95 ?_
                        exact M99 _ _ (Or.inl ⟨rfl, Or.inl c3⟩) (by unfold mo_bl la_ft; grind)
  · refine ev_iload_1 6 d_mo_lays_6 ?_
    refine ev_bipush (10) 7 d_mo_lays_7 (by decide) ?_
    refine ev_icmpne 9 16 d_mo_lays_9 (fun c9 => ?_) (fun c9 => ?_)
    · refine ev_iconst_0 16 d_mo_lays_16 ?_
      refine ev_istore_3 17 d_mo_lays_17 ?_
      refine ev_iload_1 18 d_mo_lays_18 ?_
      refine ev_iflt 19 98 d_mo_lays_19 (fun c19 => ?_) (fun c19 => ?_)
      · refine ev_iconst_0 98 d_mo_lays_98 ?_
        exact M99 _ _ (Or.inr ⟨rfl, fun z => z.elim c3 c9⟩) (by unfold mo_bl la_ft; grind)
      · refine ev_iload_1 22 d_mo_lays_22 ?_
        refine ev_bipush (12) 23 d_mo_lays_23 (by decide) ?_
        refine ev_icmpgt 25 98 d_mo_lays_25 (fun c25 => ?_) (fun c25 => ?_)
        · refine ev_iconst_0 98 d_mo_lays_98 ?_
          exact M99 _ _ (Or.inr ⟨rfl, fun z => z.elim c3 c9⟩) (by unfold mo_bl la_ft; grind)
        · refine ev_iload_3 28 d_mo_lays_28 ?_
          refine ev_ifeq 29 43 d_mo_lays_29 (fun c29 => ?_) (fun c29 => ?_)
          · refine ev_aload_0 43 d_mo_lays_43 ?_
            refine mo_geti 44 10 d_mo_lays_44 lk_154 ?_
            refine ev_iload_1 47 d_mo_lays_47 ?_
            refine ev_bipush (8) 48 d_mo_lays_48 (by decide) ?_
            refine ev_icmpne 50 57 d_mo_lays_50 (fun c50 => ?_) (fun c50 => ?_)
            · refine ev_iconst_0 57 d_mo_lays_57 ?_
              refine ev_icmpne 58 98 d_mo_lays_58 (fun c58 => ?_) (fun c58 => ?_)
              · refine ev_iconst_0 98 d_mo_lays_98 ?_
                exact M99 _ _ (Or.inr ⟨rfl, fun z => z.elim c3 c9⟩) (by unfold mo_bl la_ft; grind)
              · refine ev_iload_1 61 d_mo_lays_61 ?_
                refine ev_bipush (7) 62 d_mo_lays_62 (by decide) ?_
                refine ev_icmpne 64 79 d_mo_lays_64 (fun c64 => ?_) (fun c64 => ?_)
                · refine ev_iload_1 79 d_mo_lays_79 ?_
                  refine ev_bipush (11) 80 d_mo_lays_80 (by decide) ?_
                  refine ev_icmplt 82 94 d_mo_lays_82 (fun c82 => ?_) (fun c82 => ?_)
                  · refine ev_iconst_1 94 d_mo_lays_94 ?_
                    refine ev_goto 95 99 d_mo_lays_95 ?_
                    exact M99 _ _ (Or.inr ⟨rfl, fun z => z.elim c3 c9⟩) (by unfold mo_bl la_ft; grind)
                  · refine ev_iload_2 85 d_mo_lays_85 ?_
                    refine ev_iflt 86 98 d_mo_lays_86 (fun c86 => ?_) (fun c86 => ?_)
                    · refine ev_iconst_0 98 d_mo_lays_98 ?_
                      exact M99 _ _ (Or.inr ⟨rfl, fun z => z.elim c3 c9⟩) (by unfold mo_bl la_ft; grind)
                    · refine ev_iload_2 89 d_mo_lays_89 ?_
                      refine ev_iconst_3 90 d_mo_lays_90 ?_
                      refine ev_icmpgt 91 98 d_mo_lays_91 (fun c91 => ?_) (fun c91 => ?_)
                      · refine ev_iconst_0 98 d_mo_lays_98 ?_
                        exact M99 _ _ (Or.inr ⟨rfl, fun z => z.elim c3 c9⟩) (by unfold mo_bl la_ft; grind)
                      · refine ev_iconst_1 94 d_mo_lays_94 ?_
                        refine ev_goto 95 99 d_mo_lays_95 ?_
                        exact M99 _ _ (Or.inr ⟨rfl, fun z => z.elim c3 c9⟩) (by unfold mo_bl la_ft; grind)
                · refine ev_iload_2 67 d_mo_lays_67 ?_
                  refine ev_iconst_1 68 d_mo_lays_68 ?_
                  refine ev_icmplt 69 98 d_mo_lays_69 (fun c69 => ?_) (fun c69 => ?_)
                  · refine ev_iconst_0 98 d_mo_lays_98 ?_
                    exact M99 _ _ (Or.inr ⟨rfl, fun z => z.elim c3 c9⟩) (by unfold mo_bl la_ft; grind)
                  · refine ev_iload_2 72 d_mo_lays_72 ?_
                    refine ev_sipush (200) 73 d_mo_lays_73 (by decide) ?_
                    refine ev_icmpgt 76 98 d_mo_lays_76 (fun c76 => ?_) (fun c76 => ?_)
                    · refine ev_iconst_0 98 d_mo_lays_98 ?_
                      exact M99 _ _ (Or.inr ⟨rfl, fun z => z.elim c3 c9⟩) (by unfold mo_bl la_ft; grind)
                    · refine ev_iload_1 79 d_mo_lays_79 ?_
                      refine ev_bipush (11) 80 d_mo_lays_80 (by decide) ?_
                      refine ev_icmplt 82 94 d_mo_lays_82 (fun c82 => ?_) (fun c82 => ?_)
                      · refine ev_iconst_1 94 d_mo_lays_94 ?_
                        refine ev_goto 95 99 d_mo_lays_95 ?_
                        exact M99 _ _ (Or.inr ⟨rfl, fun z => z.elim c3 c9⟩) (by unfold mo_bl la_ft; grind)
                      · refine ev_iload_2 85 d_mo_lays_85 ?_
                        refine ev_iflt 86 98 d_mo_lays_86 (fun c86 => ?_) (fun c86 => ?_)
                        · refine ev_iconst_0 98 d_mo_lays_98 ?_
                          exact M99 _ _ (Or.inr ⟨rfl, fun z => z.elim c3 c9⟩) (by unfold mo_bl la_ft; grind)
                        · refine ev_iload_2 89 d_mo_lays_89 ?_
                          refine ev_iconst_3 90 d_mo_lays_90 ?_
                          refine ev_icmpgt 91 98 d_mo_lays_91 (fun c91 => ?_) (fun c91 => ?_)
                          · refine ev_iconst_0 98 d_mo_lays_98 ?_
                            exact M99 _ _ (Or.inr ⟨rfl, fun z => z.elim c3 c9⟩) (by unfold mo_bl la_ft; grind)
                          · refine ev_iconst_1 94 d_mo_lays_94 ?_
                            refine ev_goto 95 99 d_mo_lays_95 ?_
                            exact M99 _ _ (Or.inr ⟨rfl, fun z => z.elim c3 c9⟩) (by unfold mo_bl la_ft; grind)
            · refine ev_iconst_1 53 d_mo_lays_53 ?_
              refine ev_goto 54 58 d_mo_lays_54 ?_
              refine ev_icmpne 58 98 d_mo_lays_58 (fun c58 => ?_) (fun c58 => ?_)
              · refine ev_iconst_0 98 d_mo_lays_98 ?_
                exact M99 _ _ (Or.inr ⟨rfl, fun z => z.elim c3 c9⟩) (by unfold mo_bl la_ft; grind)
              · refine ev_iload_1 61 d_mo_lays_61 ?_
                refine ev_bipush (7) 62 d_mo_lays_62 (by decide) ?_
                refine ev_icmpne 64 79 d_mo_lays_64 (fun c64 => ?_) (fun c64 => ?_)
                · refine ev_iload_1 79 d_mo_lays_79 ?_
                  refine ev_bipush (11) 80 d_mo_lays_80 (by decide) ?_
                  refine ev_icmplt 82 94 d_mo_lays_82 (fun c82 => ?_) (fun c82 => ?_)
                  · refine ev_iconst_1 94 d_mo_lays_94 ?_
                    refine ev_goto 95 99 d_mo_lays_95 ?_
                    exact M99 _ _ (Or.inr ⟨rfl, fun z => z.elim c3 c9⟩) (by unfold mo_bl la_ft; grind)
                  · refine ev_iload_2 85 d_mo_lays_85 ?_
                    refine ev_iflt 86 98 d_mo_lays_86 (fun c86 => ?_) (fun c86 => ?_)
                    · refine ev_iconst_0 98 d_mo_lays_98 ?_
                      exact M99 _ _ (Or.inr ⟨rfl, fun z => z.elim c3 c9⟩) (by unfold mo_bl la_ft; grind)
                    · refine ev_iload_2 89 d_mo_lays_89 ?_
                      refine ev_iconst_3 90 d_mo_lays_90 ?_
                      refine ev_icmpgt 91 98 d_mo_lays_91 (fun c91 => ?_) (fun c91 => ?_)
                      · refine ev_iconst_0 98 d_mo_lays_98 ?_
                        exact M99 _ _ (Or.inr ⟨rfl, fun z => z.elim c3 c9⟩) (by unfold mo_bl la_ft; grind)
                      · refine ev_iconst_1 94 d_mo_lays_94 ?_
                        refine ev_goto 95 99 d_mo_lays_95 ?_
                        exact M99 _ _ (Or.inr ⟨rfl, fun z => z.elim c3 c9⟩) (by unfold mo_bl la_ft; grind)
                · refine ev_iload_2 67 d_mo_lays_67 ?_
                  refine ev_iconst_1 68 d_mo_lays_68 ?_
                  refine ev_icmplt 69 98 d_mo_lays_69 (fun c69 => ?_) (fun c69 => ?_)
                  · refine ev_iconst_0 98 d_mo_lays_98 ?_
                    exact M99 _ _ (Or.inr ⟨rfl, fun z => z.elim c3 c9⟩) (by unfold mo_bl la_ft; grind)
                  · refine ev_iload_2 72 d_mo_lays_72 ?_
                    refine ev_sipush (200) 73 d_mo_lays_73 (by decide) ?_
                    refine ev_icmpgt 76 98 d_mo_lays_76 (fun c76 => ?_) (fun c76 => ?_)
                    · refine ev_iconst_0 98 d_mo_lays_98 ?_
                      exact M99 _ _ (Or.inr ⟨rfl, fun z => z.elim c3 c9⟩) (by unfold mo_bl la_ft; grind)
                    · refine ev_iload_1 79 d_mo_lays_79 ?_
                      refine ev_bipush (11) 80 d_mo_lays_80 (by decide) ?_
                      refine ev_icmplt 82 94 d_mo_lays_82 (fun c82 => ?_) (fun c82 => ?_)
                      · refine ev_iconst_1 94 d_mo_lays_94 ?_
                        refine ev_goto 95 99 d_mo_lays_95 ?_
                        exact M99 _ _ (Or.inr ⟨rfl, fun z => z.elim c3 c9⟩) (by unfold mo_bl la_ft; grind)
                      · refine ev_iload_2 85 d_mo_lays_85 ?_
                        refine ev_iflt 86 98 d_mo_lays_86 (fun c86 => ?_) (fun c86 => ?_)
                        · refine ev_iconst_0 98 d_mo_lays_98 ?_
                          exact M99 _ _ (Or.inr ⟨rfl, fun z => z.elim c3 c9⟩) (by unfold mo_bl la_ft; grind)
                        · refine ev_iload_2 89 d_mo_lays_89 ?_
                          refine ev_iconst_3 90 d_mo_lays_90 ?_
                          refine ev_icmpgt 91 98 d_mo_lays_91 (fun c91 => ?_) (fun c91 => ?_)
                          · refine ev_iconst_0 98 d_mo_lays_98 ?_
                            exact M99 _ _ (Or.inr ⟨rfl, fun z => z.elim c3 c9⟩) (by unfold mo_bl la_ft; grind)
                          · refine ev_iconst_1 94 d_mo_lays_94 ?_
                            refine ev_goto 95 99 d_mo_lays_95 ?_
                            exact M99 _ _ (Or.inr ⟨rfl, fun z => z.elim c3 c9⟩) (by unfold mo_bl la_ft; grind)
          · exact absurd rfl c29
    · refine ev_iconst_1 12 d_mo_lays_12 ?_
      refine ev_goto 13 17 d_mo_lays_13 ?_
      refine ev_istore_3 17 d_mo_lays_17 ?_
      refine ev_iload_1 18 d_mo_lays_18 ?_
      refine ev_iflt 19 98 d_mo_lays_19 (fun c19 => ?_) (fun c19 => ?_)
      · refine ev_iconst_0 98 d_mo_lays_98 ?_
        exact M99 _ _ (Or.inl ⟨rfl, Or.inr c9⟩) (by unfold mo_bl la_ft; grind)
      · refine ev_iload_1 22 d_mo_lays_22 ?_
        refine ev_bipush (12) 23 d_mo_lays_23 (by decide) ?_
        refine ev_icmpgt 25 98 d_mo_lays_25 (fun c25 => ?_) (fun c25 => ?_)
        · refine ev_iconst_0 98 d_mo_lays_98 ?_
          exact M99 _ _ (Or.inl ⟨rfl, Or.inr c9⟩) (by unfold mo_bl la_ft; grind)
        · refine ev_iload_3 28 d_mo_lays_28 ?_
          refine ev_ifeq 29 43 d_mo_lays_29 (fun c29 => ?_) (fun c29 => ?_)
          · exact absurd c29 (by decide)
          · refine ev_aload_0 32 d_mo_lays_32 ?_
            refine mo_geti 33 10 d_mo_lays_33 lk_154 ?_
            refine ev_iconst_1 36 d_mo_lays_36 ?_
            refine ev_icmplt 37 98 d_mo_lays_37 (fun c37 => ?_) (fun c37 => ?_)
            · refine ev_iconst_0 98 d_mo_lays_98 ?_
              exact M99 _ _ (Or.inl ⟨rfl, Or.inr c9⟩) (by unfold mo_bl la_ft; grind)
            · refine ev_goto 40 61 d_mo_lays_40 ?_
              refine ev_iload_1 61 d_mo_lays_61 ?_
              refine ev_bipush (7) 62 d_mo_lays_62 (by decide) ?_
              refine ev_icmpne 64 79 d_mo_lays_64 (fun c64 => ?_) (fun c64 => ?_)
              · refine ev_iload_1 79 d_mo_lays_79 ?_
                refine ev_bipush (11) 80 d_mo_lays_80 (by decide) ?_
                refine ev_icmplt 82 94 d_mo_lays_82 (fun c82 => ?_) (fun c82 => ?_)
                · refine ev_iconst_1 94 d_mo_lays_94 ?_
                  refine ev_goto 95 99 d_mo_lays_95 ?_
                  exact M99 _ _ (Or.inl ⟨rfl, Or.inr c9⟩) (by unfold mo_bl la_ft; grind)
                · refine ev_iload_2 85 d_mo_lays_85 ?_
                  refine ev_iflt 86 98 d_mo_lays_86 (fun c86 => ?_) (fun c86 => ?_)
                  · refine ev_iconst_0 98 d_mo_lays_98 ?_
                    exact M99 _ _ (Or.inl ⟨rfl, Or.inr c9⟩) (by unfold mo_bl la_ft; grind)
                  · refine ev_iload_2 89 d_mo_lays_89 ?_
                    refine ev_iconst_3 90 d_mo_lays_90 ?_
                    refine ev_icmpgt 91 98 d_mo_lays_91 (fun c91 => ?_) (fun c91 => ?_)
                    · refine ev_iconst_0 98 d_mo_lays_98 ?_
                      exact M99 _ _ (Or.inl ⟨rfl, Or.inr c9⟩) (by unfold mo_bl la_ft; grind)
                    · refine ev_iconst_1 94 d_mo_lays_94 ?_
                      refine ev_goto 95 99 d_mo_lays_95 ?_
                      exact M99 _ _ (Or.inl ⟨rfl, Or.inr c9⟩) (by unfold mo_bl la_ft; grind)
              · refine ev_iload_2 67 d_mo_lays_67 ?_
                refine ev_iconst_1 68 d_mo_lays_68 ?_
                refine ev_icmplt 69 98 d_mo_lays_69 (fun c69 => ?_) (fun c69 => ?_)
                · refine ev_iconst_0 98 d_mo_lays_98 ?_
                  exact M99 _ _ (Or.inl ⟨rfl, Or.inr c9⟩) (by unfold mo_bl la_ft; grind)
                · refine ev_iload_2 72 d_mo_lays_72 ?_
                  refine ev_sipush (200) 73 d_mo_lays_73 (by decide) ?_
                  refine ev_icmpgt 76 98 d_mo_lays_76 (fun c76 => ?_) (fun c76 => ?_)
                  · refine ev_iconst_0 98 d_mo_lays_98 ?_
                    exact M99 _ _ (Or.inl ⟨rfl, Or.inr c9⟩) (by unfold mo_bl la_ft; grind)
                  · refine ev_iload_1 79 d_mo_lays_79 ?_
                    refine ev_bipush (11) 80 d_mo_lays_80 (by decide) ?_
                    refine ev_icmplt 82 94 d_mo_lays_82 (fun c82 => ?_) (fun c82 => ?_)
                    · refine ev_iconst_1 94 d_mo_lays_94 ?_
                      refine ev_goto 95 99 d_mo_lays_95 ?_
                      exact M99 _ _ (Or.inl ⟨rfl, Or.inr c9⟩) (by unfold mo_bl la_ft; grind)
                    · refine ev_iload_2 85 d_mo_lays_85 ?_
                      refine ev_iflt 86 98 d_mo_lays_86 (fun c86 => ?_) (fun c86 => ?_)
                      · refine ev_iconst_0 98 d_mo_lays_98 ?_
                        exact M99 _ _ (Or.inl ⟨rfl, Or.inr c9⟩) (by unfold mo_bl la_ft; grind)
                      · refine ev_iload_2 89 d_mo_lays_89 ?_
                        refine ev_iconst_3 90 d_mo_lays_90 ?_
                        refine ev_icmpgt 91 98 d_mo_lays_91 (fun c91 => ?_) (fun c91 => ?_)
                        · refine ev_iconst_0 98 d_mo_lays_98 ?_
                          exact M99 _ _ (Or.inl ⟨rfl, Or.inr c9⟩) (by unfold mo_bl la_ft; grind)
                        · refine ev_iconst_1 94 d_mo_lays_94 ?_
                          refine ev_goto 95 99 d_mo_lays_95 ?_
                          exact M99 _ _ (Or.inl ⟨rfl, Or.inr c9⟩) (by unfold mo_bl la_ft; grind)
