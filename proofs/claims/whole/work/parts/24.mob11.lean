/-! going through a type: what waits -/
/-- the tables agree but for what waits, and there below h -/
def mo_sw (h : Nat) (B B' : Nat → Nat → Int32) : Prop := (∀ k, k < 37 ∨ 42 < k → B' k = B k) ∧ ∀ j, j < h → B' 37 j = B 37 j ∧ B' 38 j = B 38 j ∧ B' 39 j = B 39 j ∧ B' 40 j = B 40 j ∧ B' 41 j = B 41 j ∧ B' 42 j = B 42 j
theorem mo_sw.rf (h : Nat) (B : Nat → Nat → Int32) : mo_sw h B B := ⟨fun _ _ => rfl, fun _ _ => ⟨rfl, rfl, rfl, rfl, rfl, rfl⟩⟩
theorem mo_sw.tr {h : Nat} {B B' B'' : Nat → Nat → Int32} (a : mo_sw h B B') (b : mo_sw h B' B'') : mo_sw h B B'' := by
  refine ⟨fun k hk => (b.1 k hk).trans (a.1 k hk), fun j hj => ?_⟩
  obtain ⟨a1, a2, a3, a4, a5, a6⟩ := a.2 j hj
  obtain ⟨b1, b2, b3, b4, b5, b6⟩ := b.2 j hj
  exact ⟨b1.trans a1, b2.trans a2, b3.trans a3, b4.trans a4, b5.trans a5, b6.trans a6⟩
theorem mo_sw.le {h h' : Nat} {B B' : Nat → Nat → Int32} (a : mo_sw h B B') (hh : h' ≤ h) : mo_sw h' B B' := ⟨a.1, fun j hj => a.2 j (Nat.lt_of_lt_of_le hj hh)⟩
theorem upd_ne {f : Nat → Int32} {k j : Nat} {x : Int32} (h : j ≠ k) : upd f k x j = f j := if_neg h
theorem upd_eq {f : Nat → Int32} {k : Nat} {x : Int32} : upd f k x k = x := if_pos rfl
theorem upd_upd (f : Nat → Int32) (k : Nat) (x y : Int32) : upd (upd f k x) k y = upd f k y := by
  funext j; simp only [upd]; split <;> rfl
theorem mo_aw_sw (B : Nat → Nat → Int32) (w : Nat) (t u mn pl ab i : Int32) : mo_sw w B (mo_aw B w t u mn pl ab i) := by
  refine ⟨fun k hk => ?_, fun j hj => ?_⟩
  · have h1 : k ≠ 37 := by omega
    have h2 : k ≠ 38 := by omega
    have h3 : k ≠ 39 := by omega
    have h4 : k ≠ 40 := by omega
    have h5 : k ≠ 41 := by omega
    have h6 : k ≠ 42 := by omega
    simp only [mo_aw, va_up, h1, h2, h3, h4, h5, h6, if_false]
  · have e : j ≠ w := by omega
    exact ⟨upd_ne e, upd_ne e, upd_ne e, upd_ne e, upd_ne e, upd_ne e⟩
theorem mo_aw_at (B : Nat → Nat → Int32) (w : Nat) (t u mn pl ab i : Int32) : mo_aw B w t u mn pl ab i 37 w = t ∧ mo_aw B w t u mn pl ab i 38 w = u ∧ mo_aw B w t u mn pl ab i 39 w = mn ∧ mo_aw B w t u mn pl ab i 40 w = pl ∧ mo_aw B w t u mn pl ab i 41 w = ab ∧ mo_aw B w t u mn pl ab i 42 w = i := ⟨upd_eq, upd_eq, upd_eq, upd_eq, upd_eq, upd_eq⟩
theorem n_m1 (x : Int32) : x + Int32.ofInt (-1) = x - 1 := (Int32.sub_eq_add_neg x 1).symm
/-- the types: how many parts, which, how deep -/
def ty_wf (B : Nat → Nat → Int32) (NT : Nat) (ct dp : Nat → Nat) (pt : Nat → Nat → Nat) : Prop :=
  NT ≤ 32 ∧ (∀ t, t < NT → B 7 t = nI (ct t) ∧ ct t ≤ 6 ∧ 1 ≤ dp t ∧ dp t ≤ 5) ∧ ∀ t k, t < NT → k < ct t → B 8 (6 * t + k) = nI (pt t k) ∧ pt t k < NT ∧ dp (pt t k) < dp t
def ty_sh (ct : Nat → Nat) (t u : Nat) : Nat := if ct u ≤ ct t then ct u else ct t
/-- the parts from k on, r of them, gone through one after the other -/
def nb_s (f : Nat → Nat → Nat → Nat ⊕ Nat) (pt : Nat → Nat → Nat) (t u : Nat) : Nat → Nat → Nat → Nat ⊕ Nat
  | 0, _, n => .inr n
  | r + 1, k, n => match f (pt t k) (pt u k) n with
    | .inl m => .inl m
    | .inr n' => nb_s f pt t u r (k + 1) n'
/-- t and its parts gone through against u: the number of the first that doesn't fit, or how many there were, n before -/
def nb_r (B : Nat → Nat → Int32) (ct : Nat → Nat) (pt : Nat → Nat → Nat) : Nat → Nat → Nat → Nat → Nat ⊕ Nat
  | 0, _, _, n => .inr n
  | d + 1, t, u, n => if mo_al B t u then nb_s (nb_r B ct pt d) pt t u (ty_sh ct t u) 0 (n + 1) else .inl (n + 1)
def nb_v (r : Nat ⊕ Nat) : Nat := match r with
  | .inl m => m
  | .inr _ => 0
theorem ty_sh_eq {B : Nat → Nat → Int32} {ct : Nat → Nat} {t u : Nat} (h1 : B 7 t = nI (ct t)) (h2 : B 7 u = nI (ct u)) (h3 : ct t ≤ 6) (h4 : ct u ≤ 6) : (if B 7 u ≤ B 7 t then B 7 u else B 7 t) = nI (ty_sh ct t u) := by
  rw [h1, h2, ty_sh]
  by_cases e : ct u ≤ ct t
  · rw [if_pos e, if_pos ((nI_leI (by omega) (by omega)).mpr e)]
  · rw [if_neg e, if_neg (fun z => e ((nI_leI (by omega) (by omega)).mp z))]

set_option maxHeartbeats 4000000 in
set_option maxRecDepth 100000 in
theorem mt_misfit {l : Launch} {D : va_G} {tl : List (ClassId × FieldType)} {Z : (Nat → Prop) → State → Heap → Prop} {kI kZ : ClassId} {am : Nat → Nat} {F : Nat → Int32} {B : Nat → Nat → Int32} (hZ : ev_Zok Z) (tt : Nat) (uu : Nat) (NT : Nat) (ct dp : Nat → Nat) (pt : Nat → Nat → Nat) (hW : ty_wf B NT ct dp pt) (htt : tt < NT) (huu : uu < NT) : MT (mo_π l D cl_A kI kZ tl Z) m_misfit 0 0 [.ref (am 60), .int (nI tt), .int (nI uu)] (mo_W mo_ci am kI kZ F B) (mo_qi am kI kZ (fun x F1 B1 => x = nI (nb_v (nb_r B ct pt 5 tt uu 0)) ∧ (∃ w, F1 = upd F 36 w) ∧ mo_sw 0 B B1)) := by
  refine mt_of mo_pl rfl (Nat.le_of_ble_eq_true rfl) (ev_eq (lv' := [some (.ref (am 60)), some (.int (nI tt)), some (.int (nI uu)), none, none, none, none]) ?_)
  have FIN : ∀ (n : Nat) (B2 : Nat → Nat → Int32) (o4 o5 o6 : Option Value), mo_sw 0 B B2 → nb_r B ct pt 5 tt uu 0 = .inr n → EV (mo_π l D cl_A kI kZ tl Z) m_misfit (ev_E (mo_π l D cl_A kI kZ tl Z) 0 0 (mo_qi am kI kZ (fun x F1 B1 => x = nI (nb_v (nb_r B ct pt 5 tt uu 0)) ∧ (∃ w, F1 = upd F 36 w) ∧ mo_sw 0 B B1))) 0 0 17 [some (.ref (am 60)), some (.int (nI tt)), some (.int (nI uu)), some (.int (nI (n))), o4, o5, o6] [] (mo_W mo_ci am kI kZ (upd F 36 (nI (0))) B2) := by
    intro n B2 o4 o5 o6 hs hr
    refine ev_aload_0 17 d_mo_misfit_17 ?_
    refine mo_geti 18 36 d_mo_misfit_18 lk_181 ?_
    refine ev_ifle 21 132 d_mo_misfit_21 (fun c21 => ?_) (fun c21 => ?_)
    · refine ev_iconst_0 132 d_mo_misfit_132 ?_
      refine ev_iret 133 d_mo_misfit_133 rfl ?_
      exact ⟨_, _, _, rfl, rfl, by rw [hr]; rfl, ⟨_, rfl⟩, hs⟩
    · exact absurd (show nI 0 ≤ 0 by decide) c21
  have PR : ∀ (d t u n h : Nat) (Bc : Nat → Nat → Int32) (o4 o5 o6 : Option Value), dp t ≤ d → t < NT → u < NT → h + 5 * d ≤ 50 → mo_sw 0 B Bc → Bc 37 h = nI t → Bc 38 h = nI u → (match nb_r B ct pt d t u n with | .inl m => nb_r B ct pt 5 tt uu 0 = .inl m | .inr n2 => ∀ (B2 : Nat → Nat → Int32) (q4 q5 q6 : Option Value), mo_sw h Bc B2 → EV (mo_π l D cl_A kI kZ tl Z) m_misfit (ev_E (mo_π l D cl_A kI kZ tl Z) 0 0 (mo_qi am kI kZ (fun x F1 B1 => x = nI (nb_v (nb_r B ct pt 5 tt uu 0)) ∧ (∃ w, F1 = upd F 36 w) ∧ mo_sw 0 B B1))) 0 0 17 [some (.ref (am 60)), some (.int (nI tt)), some (.int (nI uu)), some (.int (nI (n2))), q4, q5, q6] [] (mo_W mo_ci am kI kZ (upd F 36 (nI (h))) B2)) → EV (mo_π l D cl_A kI kZ tl Z) m_misfit (ev_E (mo_π l D cl_A kI kZ tl Z) 0 0 (mo_qi am kI kZ (fun x F1 B1 => x = nI (nb_v (nb_r B ct pt 5 tt uu 0)) ∧ (∃ w, F1 = upd F 36 w) ∧ mo_sw 0 B B1))) 0 0 17 [some (.ref (am 60)), some (.int (nI tt)), some (.int (nI uu)), some (.int (nI (n))), o4, o5, o6] [] (mo_W mo_ci am kI kZ (upd F 36 (nI (h + 1))) Bc) := by
    intro d
    induction d with
    | zero => intro t u n h Bc o4 o5 o6 hd ht; exact absurd (hW.2.1 t ht).2.2.1 (by omega)
    | succ d ihd =>
      intro t u n h Bc o4 o5 o6 hd ht hu hh hB hT hU hK
      have hc7 : Bc 7 = B 7 := hB.1 7 (by omega)
      have hc8 : Bc 8 = B 8 := hB.1 8 (by omega)
      have hc2 : Bc 2 = B 2 := hB.1 2 (by omega)
      have hc3 : Bc 3 = B 3 := hB.1 3 (by omega)
      have hT32 := hW.1
      obtain ⟨ht1, ht2, ht3, ht4⟩ := hW.2.1 t ht
      obtain ⟨hu1, hu2, hu3, hu4⟩ := hW.2.1 u hu
      have hsh : ty_sh ct t u ≤ ct t ∧ ty_sh ct t u ≤ ct u ∧ ty_sh ct t u ≤ 6 := by unfold ty_sh; split <;> omega
      have SB : ∀ (r k n : Nat) (B1 : Nat → Nat → Int32) (o4 o5 o6 : Option Value), r + k = ty_sh ct t u → mo_sw h Bc B1 → (∀ j, j < r → B1 37 (h + j) = nI (pt t (ty_sh ct t u - 1 - j)) ∧ B1 38 (h + j) = nI (pt u (ty_sh ct t u - 1 - j))) → (match nb_s (nb_r B ct pt d) pt t u r k n with | .inl m => nb_r B ct pt 5 tt uu 0 = .inl m | .inr n2 => ∀ (B2 : Nat → Nat → Int32) (q4 q5 q6 : Option Value), mo_sw h Bc B2 → EV (mo_π l D cl_A kI kZ tl Z) m_misfit (ev_E (mo_π l D cl_A kI kZ tl Z) 0 0 (mo_qi am kI kZ (fun x F1 B1 => x = nI (nb_v (nb_r B ct pt 5 tt uu 0)) ∧ (∃ w, F1 = upd F 36 w) ∧ mo_sw 0 B B1))) 0 0 17 [some (.ref (am 60)), some (.int (nI tt)), some (.int (nI uu)), some (.int (nI (n2))), q4, q5, q6] [] (mo_W mo_ci am kI kZ (upd F 36 (nI (h))) B2)) → EV (mo_π l D cl_A kI kZ tl Z) m_misfit (ev_E (mo_π l D cl_A kI kZ tl Z) 0 0 (mo_qi am kI kZ (fun x F1 B1 => x = nI (nb_v (nb_r B ct pt 5 tt uu 0)) ∧ (∃ w, F1 = upd F 36 w) ∧ mo_sw 0 B B1))) 0 0 17 [some (.ref (am 60)), some (.int (nI tt)), some (.int (nI uu)), some (.int (nI (n))), o4, o5, o6] [] (mo_W mo_ci am kI kZ (upd F 36 (nI (h + r))) B1) := by
        intro r
        induction r with
        | zero =>
          intro k n B1 o4 o5 o6 hr hs hj hk9
          exact hk9 B1 o4 o5 o6 hs
        | succ r ihr =>
          intro k n B1 o4 o5 o6 hr hs hj hk9
          obtain ⟨p1, p2, p3⟩ := hW.2.2 t k ht (by omega)
          obtain ⟨q1, q2, q3⟩ := hW.2.2 u k hu (by omega)
          have hjr := hj r (by omega)
          rw [show ty_sh ct t u - 1 - r = k by omega] at hjr
          refine ihd (pt t k) (pt u k) n (h + r) B1 o4 o5 o6 (by omega) p2 q2 (by omega) (hB.tr (hs.le (Nat.zero_le _))) hjr.1 hjr.2 ?_
          rw [nb_s] at hk9
          cases e : nb_r B ct pt d (pt t k) (pt u k) n with
          | inl m => rw [e] at hk9; exact hk9
          | inr n2 =>
            rw [e] at hk9
            intro B2 q4 q5 q6 hs2
            refine ihr (k + 1) n2 B2 q4 q5 q6 (by omega) (hs.tr (hs2.le (by omega))) (fun j hjj => ?_) hk9
            obtain ⟨a1, a2, -⟩ := hs2.2 (h + j) (by omega)
            rw [a1, a2]
            exact hj j (by omega)
      have PU : mo_al B t u → ∀ (r : Nat) (B1 : Nat → Nat → Int32), r ≤ ty_sh ct t u → mo_sw h Bc B1 → (∀ j, j < ty_sh ct t u - r → B1 37 (h + j) = nI (pt t (ty_sh ct t u - 1 - j)) ∧ B1 38 (h + j) = nI (pt u (ty_sh ct t u - 1 - j))) → EV (mo_π l D cl_A kI kZ tl Z) m_misfit (ev_E (mo_π l D cl_A kI kZ tl Z) 0 0 (mo_qi am kI kZ (fun x F1 B1 => x = nI (nb_v (nb_r B ct pt 5 tt uu 0)) ∧ (∃ w, F1 = upd F 36 w) ∧ mo_sw 0 B B1))) 0 0 84 [some (.ref (am 60)), some (.int (nI tt)), some (.int (nI uu)), some (.int (nI (n + 1))), some (.int (nI t)), some (.int (nI u)), some (.int (nI r - 1))] [] (mo_W mo_ci am kI kZ (upd F 36 (nI (h + (ty_sh ct t u - r)))) B1) := by
        intro hal r
        induction r with
        | zero =>
          intro B1 hr hs hj
          refine ev_iload_6 84 d_mo_misfit_84 ?_
          refine ev_iflt 86 129 d_mo_misfit_86 (fun c86 => ?_) (fun c86 => ?_)
          · refine ev_goto 129 17 d_mo_misfit_129 ?_
            refine SB (ty_sh ct t u) 0 (n + 1) B1 _ _ _ (by omega) hs (fun j hjj => hj j (by omega)) ?_
            rw [nb_r, if_pos hal] at hK
            exact hK
          · exact absurd (by decide) c86
        | succ r ih =>
          intro B1 hr hs hj
          obtain ⟨p1, p2, p3⟩ := hW.2.2 t r ht (by omega)
          obtain ⟨q1, q2, q3⟩ := hW.2.2 u r hu (by omega)
          have h8 : B1 8 = B 8 := (hs.1 8 (by omega)).trans hc8
          rw [nI_pred]
          refine ev_iload_6 84 d_mo_misfit_84 ?_
          refine ev_iflt 86 129 d_mo_misfit_86 (fun c86 => ?_) (fun c86 => ?_)
          · exact absurd c86 (nI_pos (by omega))
          · refine ev_aload_0 89 d_mo_misfit_89 ?_
            refine ev_aload_0 90 d_mo_misfit_90 ?_
            refine mo_getr 91 6 8 d_mo_misfit_91 lk_28 ?_
            refine ev_bipush (6) 94 d_mo_misfit_94 (by decide) ?_
            refine ev_iload_4 96 d_mo_misfit_96 ?_
            refine ev_imul 98 d_mo_misfit_98 ?_
            refine ev_iload_6 99 d_mo_misfit_99 ?_
            refine ev_iadd 101 d_mo_misfit_101 ?_
            refine ev_topi (nI (6 * t + r)) (by rw [n_6, pk_mul, nI_add]) ?_
            refine mo_aldn (j := 6 * t + r) 102 6 8 d_mo_misfit_102 (by show 6 * t + r < 192; omega) ?_
            refine ev_topi (nI (pt t r)) (by rw [h8]; exact p1) ?_
            refine ev_aload_0 103 d_mo_misfit_103 ?_
            refine mo_getr 104 6 8 d_mo_misfit_104 lk_28 ?_
            refine ev_bipush (6) 107 d_mo_misfit_107 (by decide) ?_
            refine ev_iload_5 109 d_mo_misfit_109 ?_
            refine ev_imul 111 d_mo_misfit_111 ?_
            refine ev_iload_6 112 d_mo_misfit_112 ?_
            refine ev_iadd 114 d_mo_misfit_114 ?_
            refine ev_topi (nI (6 * u + r)) (by rw [n_6, pk_mul, nI_add]) ?_
            refine mo_aldn (j := 6 * u + r) 115 6 8 d_mo_misfit_115 (by show 6 * u + r < 192; omega) ?_
            refine ev_topi (nI (pt u r)) (by rw [h8]; exact q1) ?_
            refine ev_iconst_1 116 d_mo_misfit_116 ?_
            refine ev_iconst_0 117 d_mo_misfit_117 ?_
            refine ev_iconst_0 118 d_mo_misfit_118 ?_
            refine ev_iconst_0 119 d_mo_misfit_119 ?_
            refine mo_callv6 120 d_mo_misfit_120 hZ kc_184 (mt_await hZ _ _ _ _ _ _ (by rw [upd_eq]; exact vp_in_nI (by omega) (by decide))) (fun F9 B9 h9 => ?_)
            obtain ⟨e1, e2⟩ := h9
            subst F9
            subst B9
            refine ev_iinc_6 123 d_mo_misfit_123 ?_
            refine ev_goto 126 84 d_mo_misfit_126 ?_
            rw [upd_eq, nI_clamp (by omega)]
            have hat := mo_aw_at B1 (h + (ty_sh ct t u - (r + 1))) (nI (pt t r)) (nI (pt u r)) 1 0 0 0
            have hsw := mo_aw_sw B1 (h + (ty_sh ct t u - (r + 1))) (nI (pt t r)) (nI (pt u r)) 1 0 0 0
            refine ev_eq (ih (mo_aw B1 (h + (ty_sh ct t u - (r + 1))) (nI (pt t r)) (nI (pt u r)) 1 0 0 0) (by omega) (hs.tr (hsw.le (by omega))) (fun j hjj => ?_)) (h1 := by rw [n_m1]) (h3 := by rw [upd_upd, nI_1, show h + (ty_sh ct t u - (r + 1)) + 1 = h + (ty_sh ct t u - r) by omega])
            by_cases e : j = ty_sh ct t u - (r + 1)
            · subst e
              rw [show ty_sh ct t u - 1 - (ty_sh ct t u - (r + 1)) = r by omega]
              exact ⟨hat.1, hat.2.1⟩
            · obtain ⟨a1, a2, -⟩ := hsw.2 (h + j) (by omega)
              rw [a1, a2]
              exact hj j (by omega)
      refine ev_aload_0 17 d_mo_misfit_17 ?_
      refine mo_geti 18 36 d_mo_misfit_18 lk_181 ?_
      refine ev_ifle 21 132 d_mo_misfit_21 (fun c21 => ?_) (fun c21 => ?_)
      · exact absurd (show nI (h + 1) ≤ 0 from c21) (nI_nle (by omega) (by omega))
      · refine ev_aload_0 24 d_mo_misfit_24 ?_
        refine ev_dup_a 25 d_mo_misfit_25 ?_
        refine mo_geti 26 36 d_mo_misfit_26 lk_181 ?_
        refine ev_iconst_1 29 d_mo_misfit_29 ?_
        refine ev_isub 30 d_mo_misfit_30 ?_
        refine mo_puti 31 36 d_mo_misfit_31 lp_181 ?_
        rw [upd_upd, upd_eq, nI_pred]
        refine ev_aload_0 34 d_mo_misfit_34 ?_
        refine mo_getr 35 26 37 d_mo_misfit_35 lk_93 ?_
        refine ev_aload_0 38 d_mo_misfit_38 ?_
        refine mo_geti 39 36 d_mo_misfit_39 lk_181 ?_
        refine ev_topi (nI (h)) (by exact upd_eq) ?_
        refine mo_aldn (j := h) 42 26 37 d_mo_misfit_42 (by show h < 64; omega) ?_
        refine ev_topi (nI t) hT ?_
        refine ev_istore_4 43 d_mo_misfit_43 ?_
        refine ev_aload_0 45 d_mo_misfit_45 ?_
        refine mo_getr 46 27 38 d_mo_misfit_46 lk_96 ?_
        refine ev_aload_0 49 d_mo_misfit_49 ?_
        refine mo_geti 50 36 d_mo_misfit_50 lk_181 ?_
        refine ev_topi (nI (h)) (by exact upd_eq) ?_
        refine mo_aldn (j := h) 53 27 38 d_mo_misfit_53 (by show h < 64; omega) ?_
        refine ev_topi (nI u) hU ?_
        refine ev_istore_5 54 d_mo_misfit_54 ?_
        refine ev_iinc_3 56 d_mo_misfit_56 ?_
        refine ev_aload_0 59 d_mo_misfit_59 ?_
        refine ev_iload_4 60 d_mo_misfit_60 ?_
        refine ev_iload_5 62 d_mo_misfit_62 ?_
        refine mo_calli2 64 d_mo_misfit_64 hZ kc_188 (mt_alike hZ (nI t) (nI u) (vp_in_nI (by omega) (by decide)) (vp_in_nI (by omega) (by decide))) (fun y F9 B9 h9 => ?_)
        obtain ⟨hy, e1, e2⟩ := h9
        subst F9
        subst B9
        replace hy : mo_bl y (mo_al B t u) := by
          rw [nI_clamp (by omega), nI_clamp (by omega)] at hy
          simpa only [mo_al, hc2, hc3, hc7] using hy
        refine ev_ifne 67 72 d_mo_misfit_67 (fun c67 => ?_) (fun c67 => ?_)
        · refine ev_aload_0 72 d_mo_misfit_72 ?_
          refine ev_iload_4 73 d_mo_misfit_73 ?_
          refine ev_iload_5 75 d_mo_misfit_75 ?_
          refine mo_calli2 77 d_mo_misfit_77 hZ kc_191 (mt_shared hZ (nI t) (nI u) (vp_in_nI (by omega) (by decide)) (vp_in_nI (by omega) (by decide))) (fun z F9 B9 h9 => ?_)
          obtain ⟨hz, e1, e2⟩ := h9
          subst F9
          subst B9
          rw [nI_clamp (by omega), nI_clamp (by omega), hc7, ty_sh_eq ht1 hu1 ht2 hu2] at hz
          subst hz
          refine ev_iconst_1 80 d_mo_misfit_80 ?_
          refine ev_isub 81 d_mo_misfit_81 ?_
          refine ev_istore_6 82 d_mo_misfit_82 ?_
          refine ev_eq (PU (mo_b1 hy c67) (ty_sh ct t u) Bc (Nat.le_refl _) (mo_sw.rf _ _) (fun j hj => absurd hj (by omega))) (h1 := by rw [n_i1]) (h3 := by rw [Nat.sub_self, Nat.add_zero])
        · refine ev_iload_3 70 d_mo_misfit_70 ?_
          refine ev_iret 71 d_mo_misfit_71 rfl ?_
          rw [nb_r, if_neg (mo_b0 hy c67)] at hK
          exact ⟨_, _, _, rfl, rfl, by rw [show nb_r B ct pt 5 tt uu 0 = .inl (n + 1) from hK, n_i1]; rfl, ⟨_, rfl⟩, hB⟩
  refine ev_aload_0 0 d_mo_misfit_0 ?_
  refine ev_iconst_0 1 d_mo_misfit_1 ?_
  refine mo_puti 2 36 d_mo_misfit_2 lp_181 ?_
  refine ev_aload_0 5 d_mo_misfit_5 ?_
  refine ev_iload_1 6 d_mo_misfit_6 ?_
  refine ev_iload_2 7 d_mo_misfit_7 ?_
  refine ev_iconst_1 8 d_mo_misfit_8 ?_
  refine ev_iconst_0 9 d_mo_misfit_9 ?_
  refine ev_iconst_0 10 d_mo_misfit_10 ?_
  refine ev_iconst_0 11 d_mo_misfit_11 ?_
  refine mo_callv6 12 d_mo_misfit_12 hZ kc_184 (mt_await hZ _ _ _ _ _ _ (vp_in_nI (n := 0) (by decide) (by decide))) (fun F9 B9 h9 => ?_)
  obtain ⟨e1, e2⟩ := h9
  subst F9
  subst B9
  refine ev_iconst_0 15 d_mo_misfit_15 ?_
  refine ev_istore_3 16 d_mo_misfit_16 ?_
  have hsw := mo_aw_sw B 0 (nI tt) (nI uu) 1 0 0 0
  have hat := mo_aw_at B 0 (nI tt) (nI uu) 1 0 0 0
  have key : ∀ rr, nb_r B ct pt 5 tt uu 0 = rr → (match rr with | .inl m => nb_r B ct pt 5 tt uu 0 = .inl m | .inr n2 => ∀ (B2 : Nat → Nat → Int32) (q4 q5 q6 : Option Value), mo_sw 0 (mo_aw B 0 (nI tt) (nI uu) 1 0 0 0) B2 → EV (mo_π l D cl_A kI kZ tl Z) m_misfit (ev_E (mo_π l D cl_A kI kZ tl Z) 0 0 (mo_qi am kI kZ (fun x F1 B1 => x = nI (nb_v (nb_r B ct pt 5 tt uu 0)) ∧ (∃ w, F1 = upd F 36 w) ∧ mo_sw 0 B B1))) 0 0 17 [some (.ref (am 60)), some (.int (nI tt)), some (.int (nI uu)), some (.int (nI (n2))), q4, q5, q6] [] (mo_W mo_ci am kI kZ (upd F 36 (nI 0)) B2)) := by
    intro rr e
    cases rr with
    | inl m => exact e
    | inr n2 => exact fun B2 q4 q5 q6 hs => FIN n2 B2 q4 q5 q6 (hsw.tr hs) e
  exact ev_eq (PR 5 tt uu 0 0 (mo_aw B 0 (nI tt) (nI uu) 1 0 0 0) none none none (hW.2.1 tt htt).2.2.2 htt huu (by omega) hsw hat.1 hat.2.1 (key _ rfl)) (h3 := by rw [upd_upd]; rfl)
