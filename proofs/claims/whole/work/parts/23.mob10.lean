/-- the parts and offsets of a new type t, j of them -/
def mo_tp (f g : Nat → Int32) (t : Nat) : Nat → Nat → Int32
  | 0 => f
  | j + 1 => upd (mo_tp f g t j) (6 * t + j) (g j)

set_option maxHeartbeats 4000000 in
set_option maxRecDepth 100000 in
theorem mt_type {l : Launch} {D : va_G} {tl : List (ClassId × FieldType)} {Z : (Nat → Prop) → State → Heap → Prop} {kI kZ : ClassId} {am : Nat → Nat} {F : Nat → Int32} {B : Nat → Nat → Int32} (hZ : ev_Zok Z) (k : Int32) (n : Int32) (NT : Nat) (hNT : F 1 = nI NT) (h32 : NT ≤ 32) (nd : Nat) (hnd : F 10 = nI nd) (hn6 : nd ≤ 6) (dr al sz dp : Nat → Nat) (hdr : ∀ j, j < nd → B 11 j = nI (dr j) ∧ dr j < 32) (hal : ∀ j, j < nd → B 5 (dr j) = nI (al (dr j)) ∧ 1 ≤ al (dr j) ∧ al (dr j) ≤ 8) (hsz : ∀ j, j < nd → B 4 (dr j) = nI (sz (dr j)) ∧ sz (dr j) ≤ 96) (hdp : ∀ j, j < nd → B 6 (dr j) = nI (dp (dr j)) ∧ dp (dr j) ≤ 5) : MT (mo_π l D cl_A kI kZ tl Z) m_type 0 0 [.ref (am 60), .int k, .int n] (mo_W mo_ci am kI kZ F B) (mo_qi am kI kZ (fun x F1 B1 => (¬ (la_ft k n (F 10) ∧ ¬ 5 < nI (la_dp dr dp nd) ∧ ¬ 96 < (if k = 9 ∨ k = 10 then nI (mo_ut (la_en k (la_al dr al nd) dr al sz nd) (la_al dr al nd)) else mo_psz k)) ∧ x = 0 ∧ ((F1 = upd F 0 1 ∧ B1 = B) ∨ (F1 = upd (mo_l3 F (nI (la_dp dr dp nd)) (if k = 9 ∨ k = 10 then nI (la_al dr al nd) else la_a0 k) (if k = 9 ∨ k = 10 then nI (mo_ut (la_en k (la_al dr al nd) dr al sz nd) (la_al dr al nd)) else mo_psz k)) 0 1 ∧ B1 = va_up B 59 (la_os k (la_al dr al nd) dr al sz (B 59) nd)))) ∨ ((la_ft k n (F 10) ∧ ¬ 5 < nI (la_dp dr dp nd) ∧ ¬ 96 < (if k = 9 ∨ k = 10 then nI (mo_ut (la_en k (la_al dr al nd) dr al sz nd) (la_al dr al nd)) else mo_psz k)) ∧ NT = 32 ∧ x = 0 ∧ F1 = upd (mo_l3 F (nI (la_dp dr dp nd)) (if k = 9 ∨ k = 10 then nI (la_al dr al nd) else la_a0 k) (if k = 9 ∨ k = 10 then nI (mo_ut (la_en k (la_al dr al nd) dr al sz nd) (la_al dr al nd)) else mo_psz k)) 0 2 ∧ B1 = va_up B 59 (la_os k (la_al dr al nd) dr al sz (B 59) nd)) ∨ ((la_ft k n (F 10) ∧ ¬ 5 < nI (la_dp dr dp nd) ∧ ¬ 96 < (if k = 9 ∨ k = 10 then nI (mo_ut (la_en k (la_al dr al nd) dr al sz nd) (la_al dr al nd)) else mo_psz k)) ∧ NT < 32 ∧ x = nI NT ∧ F1 = upd (upd (upd (mo_l3 F (nI (la_dp dr dp nd)) (if k = 9 ∨ k = 10 then nI (la_al dr al nd) else la_a0 k) (if k = 9 ∨ k = 10 then nI (mo_ut (la_en k (la_al dr al nd) dr al sz nd) (la_al dr al nd)) else mo_psz k)) 0 0) 1 (F 1 + 1)) 10 0 ∧ B1 = (va_up (va_up (va_up (va_up (va_up (va_up (va_up (va_up (va_up B 59 (la_os k (la_al dr al nd) dr al sz (B 59) nd)) 2 (upd (B 2) NT k)) 3 (upd (B 3) NT n)) 4 (upd (B 4) NT (if k = 9 ∨ k = 10 then nI (mo_ut (la_en k (la_al dr al nd) dr al sz nd) (la_al dr al nd)) else mo_psz k))) 5 (upd (B 5) NT (if k = 9 ∨ k = 10 then nI (la_al dr al nd) else la_a0 k))) 6 (upd (B 6) NT (nI (la_dp dr dp nd)))) 7 (upd (B 7) NT (nI nd))) 8 (mo_tp (B 8) (B 11) NT nd)) 9 (mo_tp (B 9) (la_os k (la_al dr al nd) dr al sz (B 59) nd) NT nd))))) := by
  refine mt_of mo_pl rfl (Nat.le_of_ble_eq_true rfl) (ev_eq (lv' := [some (.ref (am 60)), some (.int k), some (.int n), none, none]) ?_)
  have L108 : (la_ft k n (F 10) ∧ ¬ 5 < nI (la_dp dr dp nd) ∧ ¬ 96 < (if k = 9 ∨ k = 10 then nI (mo_ut (la_en k (la_al dr al nd) dr al sz nd) (la_al dr al nd)) else mo_psz k)) → NT < 32 → ∀ m j : Nat, nd - j < m → j ≤ nd → EV (mo_π l D cl_A kI kZ tl Z) m_type (ev_E (mo_π l D cl_A kI kZ tl Z) 0 0 (mo_qi am kI kZ (fun x F1 B1 => (¬ (la_ft k n (F 10) ∧ ¬ 5 < nI (la_dp dr dp nd) ∧ ¬ 96 < (if k = 9 ∨ k = 10 then nI (mo_ut (la_en k (la_al dr al nd) dr al sz nd) (la_al dr al nd)) else mo_psz k)) ∧ x = 0 ∧ ((F1 = upd F 0 1 ∧ B1 = B) ∨ (F1 = upd (mo_l3 F (nI (la_dp dr dp nd)) (if k = 9 ∨ k = 10 then nI (la_al dr al nd) else la_a0 k) (if k = 9 ∨ k = 10 then nI (mo_ut (la_en k (la_al dr al nd) dr al sz nd) (la_al dr al nd)) else mo_psz k)) 0 1 ∧ B1 = va_up B 59 (la_os k (la_al dr al nd) dr al sz (B 59) nd)))) ∨ ((la_ft k n (F 10) ∧ ¬ 5 < nI (la_dp dr dp nd) ∧ ¬ 96 < (if k = 9 ∨ k = 10 then nI (mo_ut (la_en k (la_al dr al nd) dr al sz nd) (la_al dr al nd)) else mo_psz k)) ∧ NT = 32 ∧ x = 0 ∧ F1 = upd (mo_l3 F (nI (la_dp dr dp nd)) (if k = 9 ∨ k = 10 then nI (la_al dr al nd) else la_a0 k) (if k = 9 ∨ k = 10 then nI (mo_ut (la_en k (la_al dr al nd) dr al sz nd) (la_al dr al nd)) else mo_psz k)) 0 2 ∧ B1 = va_up B 59 (la_os k (la_al dr al nd) dr al sz (B 59) nd)) ∨ ((la_ft k n (F 10) ∧ ¬ 5 < nI (la_dp dr dp nd) ∧ ¬ 96 < (if k = 9 ∨ k = 10 then nI (mo_ut (la_en k (la_al dr al nd) dr al sz nd) (la_al dr al nd)) else mo_psz k)) ∧ NT < 32 ∧ x = nI NT ∧ F1 = upd (upd (upd (mo_l3 F (nI (la_dp dr dp nd)) (if k = 9 ∨ k = 10 then nI (la_al dr al nd) else la_a0 k) (if k = 9 ∨ k = 10 then nI (mo_ut (la_en k (la_al dr al nd) dr al sz nd) (la_al dr al nd)) else mo_psz k)) 0 0) 1 (F 1 + 1)) 10 0 ∧ B1 = (va_up (va_up (va_up (va_up (va_up (va_up (va_up (va_up (va_up B 59 (la_os k (la_al dr al nd) dr al sz (B 59) nd)) 2 (upd (B 2) NT k)) 3 (upd (B 3) NT n)) 4 (upd (B 4) NT (if k = 9 ∨ k = 10 then nI (mo_ut (la_en k (la_al dr al nd) dr al sz nd) (la_al dr al nd)) else mo_psz k))) 5 (upd (B 5) NT (if k = 9 ∨ k = 10 then nI (la_al dr al nd) else la_a0 k))) 6 (upd (B 6) NT (nI (la_dp dr dp nd)))) 7 (upd (B 7) NT (nI nd))) 8 (mo_tp (B 8) (B 11) NT nd)) 9 (mo_tp (B 9) (la_os k (la_al dr al nd) dr al sz (B 59) nd) NT nd)))))) 0 0 108 [some (.ref (am 60)), some (.int k), some (.int n), some (.int (nI NT)), some (.int (nI j))] [] (mo_W mo_ci am kI kZ (upd (upd (mo_l3 F (nI (la_dp dr dp nd)) (if k = 9 ∨ k = 10 then nI (la_al dr al nd) else la_a0 k) (if k = 9 ∨ k = 10 then nI (mo_ut (la_en k (la_al dr al nd) dr al sz nd) (la_al dr al nd)) else mo_psz k)) 0 0) 1 (F 1 + 1)) (va_up (va_up (va_up (va_up (va_up (va_up (va_up (va_up (va_up B 59 (la_os k (la_al dr al nd) dr al sz (B 59) nd)) 2 (upd (B 2) NT k)) 3 (upd (B 3) NT n)) 4 (upd (B 4) NT (if k = 9 ∨ k = 10 then nI (mo_ut (la_en k (la_al dr al nd) dr al sz nd) (la_al dr al nd)) else mo_psz k))) 5 (upd (B 5) NT (if k = 9 ∨ k = 10 then nI (la_al dr al nd) else la_a0 k))) 6 (upd (B 6) NT (nI (la_dp dr dp nd)))) 7 (upd (B 7) NT (nI nd))) 8 (mo_tp (B 8) (B 11) NT j)) 9 (mo_tp (B 9) (la_os k (la_al dr al nd) dr al sz (B 59) nd) NT j))) := by
    intro hok hlt m
    induction m with
    | zero => intro j h; omega
    | succ m ih =>
      intro j hm hj
      refine ev_iload_4 108 d_mo_type_108 ?_
      refine ev_aload_0 110 d_mo_type_110 ?_
      refine mo_geti 111 10 d_mo_type_111 lk_154 ?_
      refine ev_icmpge 114 161 d_mo_type_114 (fun c114 => ?_) (fun c114 => ?_)
      · have h114 := n_le nd j c114 hnd
        have ej : j = nd := by omega
        subst j
        refine ev_aload_0 161 d_mo_type_161 ?_
        refine ev_iconst_0 162 d_mo_type_162 ?_
        refine mo_puti 163 10 d_mo_type_163 lp_154 ?_
        refine ev_iload_3 166 d_mo_type_166 ?_
        refine ev_iret 167 d_mo_type_167 rfl ?_
        exact ⟨_, _, _, rfl, rfl, Or.inr (Or.inr ⟨hok, hlt, rfl, rfl, rfl⟩)⟩
      · have h114 := n_nle nd j c114 hnd
        refine ev_aload_0 117 d_mo_type_117 ?_
        refine mo_getr 118 6 8 d_mo_type_118 lk_28 ?_
        refine ev_bipush (6) 121 d_mo_type_121 (by decide) ?_
        refine ev_iload_3 123 d_mo_type_123 ?_
        refine ev_imul 124 d_mo_type_124 ?_
        refine ev_iload_4 125 d_mo_type_125 ?_
        refine ev_iadd 127 d_mo_type_127 ?_
        refine ev_aload_0 128 d_mo_type_128 ?_
        refine mo_getr 129 8 11 d_mo_type_129 lk_34 ?_
        refine ev_iload_4 132 d_mo_type_132 ?_
        refine mo_aldn (j := j) 134 8 11 d_mo_type_134 (by show j < 6; omega) ?_
        refine ev_sndi (nI (6 * NT + j)) (by rw [n_6, pk_mul, nI_add]) ?_
        refine mo_astn (j := 6 * NT + j) 135 6 8 d_mo_type_135 (by show 6 * NT + j < 192; omega) ?_
        refine ev_aload_0 136 d_mo_type_136 ?_
        refine mo_getr 137 7 9 d_mo_type_137 lk_31 ?_
        refine ev_bipush (6) 140 d_mo_type_140 (by decide) ?_
        refine ev_iload_3 142 d_mo_type_142 ?_
        refine ev_imul 143 d_mo_type_143 ?_
        refine ev_iload_4 144 d_mo_type_144 ?_
        refine ev_iadd 146 d_mo_type_146 ?_
        refine ev_aload_0 147 d_mo_type_147 ?_
        refine mo_getr 148 41 59 d_mo_type_148 lk_138 ?_
        refine ev_iload_4 151 d_mo_type_151 ?_
        refine mo_aldn (j := j) 153 41 59 d_mo_type_153 (by show j < 6; omega) ?_
        refine ev_sndi (nI (6 * NT + j)) (by rw [n_6, pk_mul, nI_add]) ?_
        refine mo_astn (j := 6 * NT + j) 154 7 9 d_mo_type_154 (by show 6 * NT + j < 192; omega) ?_
        refine ev_iinc_4 155 d_mo_type_155 ?_
        refine ev_goto 158 108 d_mo_type_158 ?_
        exact ev_eq (ih (j + 1) (by omega) (by omega)) (h1 := by rw [n_i1]) (h3 := congrArg (mo_W mo_ci am kI kZ _) (mo_u4 _ 8 9 _ _ _ _ (by decide)))
  refine ev_aload_0 0 d_mo_type_0 ?_
  refine ev_aload_0 1 d_mo_type_1 ?_
  refine ev_iload_1 2 d_mo_type_2 ?_
  refine ev_iload_2 3 d_mo_type_3 ?_
  refine mo_calli2 4 d_mo_type_4 hZ kc_177 (mt_lays hZ k n nd hnd hn6 dr al sz dp hdr hal hsz hdp) (fun y F1 B1 h => ?_)
  refine ev_ifne 7 14 d_mo_type_7 (fun c7 => ?_) (fun c7 => ?_)
  · have hok : (la_ft k n (F 10) ∧ ¬ 5 < nI (la_dp dr dp nd) ∧ ¬ 96 < (if k = 9 ∨ k = 10 then nI (mo_ut (la_en k (la_al dr al nd) dr al sz nd) (la_al dr al nd)) else mo_psz k)) ∧ F1 = (mo_l3 F (nI (la_dp dr dp nd)) (if k = 9 ∨ k = 10 then nI (la_al dr al nd) else la_a0 k) (if k = 9 ∨ k = 10 then nI (mo_ut (la_en k (la_al dr al nd) dr al sz nd) (la_al dr al nd)) else mo_psz k)) ∧ B1 = va_up B 59 (la_os k (la_al dr al nd) dr al sz (B 59) nd) := by
      rcases h with ⟨-, b, -⟩ | ⟨a, b, e1, e2⟩
      · exact absurd b c7
      · exact ⟨⟨a, mo_b1 b c7⟩, e1, e2⟩
    obtain ⟨hok, e1, e2⟩ := hok
    subst F1
    subst B1
    refine ev_aload_0 14 d_mo_type_14 ?_
    refine mo_geti 15 1 d_mo_type_15 lk_144 ?_
    refine ev_bipush (32) 18 d_mo_type_18 (by decide) ?_
    refine ev_icmpne 20 27 d_mo_type_20 (fun c20 => ?_) (fun c20 => ?_)
    · have hlt : NT < 32 := by have := n_ne NT 32 c20 hNT; omega
      refine ev_iconst_0 27 d_mo_type_27 ?_
      refine mo_calli1 28 d_mo_type_28 hZ kc_157 (mt_refuses hZ _) (fun x F9 B9 h9 => ?_)
      obtain ⟨hx, e1, e2⟩ := h9
      subst F9
      subst B9
      refine ev_ifeq 31 36 d_mo_type_31 (fun c31 => ?_) (fun c31 => ?_)
      · refine ev_aload_0 36 d_mo_type_36 ?_
        refine mo_geti 37 1 d_mo_type_37 lk_144 ?_
        refine ev_topi (nI NT) hNT ?_
        refine ev_istore_3 40 d_mo_type_40 ?_
        refine ev_aload_0 41 d_mo_type_41 ?_
        refine ev_dup_a 42 d_mo_type_42 ?_
        refine mo_geti 43 1 d_mo_type_43 lk_144 ?_
        refine ev_iconst_1 46 d_mo_type_46 ?_
        refine ev_iadd 47 d_mo_type_47 ?_
        refine mo_puti 48 1 d_mo_type_48 lp_144 ?_
        refine ev_aload_0 51 d_mo_type_51 ?_
        refine mo_getr 52 0 2 d_mo_type_52 lk_7 ?_
        refine ev_iload_3 55 d_mo_type_55 ?_
        refine ev_iload_1 56 d_mo_type_56 ?_
        refine mo_astn (j := NT) 57 0 2 d_mo_type_57 (by exact hlt) ?_
        refine ev_aload_0 58 d_mo_type_58 ?_
        refine mo_getr 59 1 3 d_mo_type_59 lk_13 ?_
        refine ev_iload_3 62 d_mo_type_62 ?_
        refine ev_iload_2 63 d_mo_type_63 ?_
        refine mo_astn (j := NT) 64 1 3 d_mo_type_64 (by exact hlt) ?_
        refine ev_aload_0 65 d_mo_type_65 ?_
        refine mo_getr 66 2 4 d_mo_type_66 lk_16 ?_
        refine ev_iload_3 69 d_mo_type_69 ?_
        refine ev_aload_0 70 d_mo_type_70 ?_
        refine mo_geti 71 58 d_mo_type_71 lk_170 ?_
        refine mo_astn (j := NT) 74 2 4 d_mo_type_74 (by exact hlt) ?_
        refine ev_aload_0 75 d_mo_type_75 ?_
        refine mo_getr 76 3 5 d_mo_type_76 lk_19 ?_
        refine ev_iload_3 79 d_mo_type_79 ?_
        refine ev_aload_0 80 d_mo_type_80 ?_
        refine mo_geti 81 57 d_mo_type_81 lk_167 ?_
        refine mo_astn (j := NT) 84 3 5 d_mo_type_84 (by exact hlt) ?_
        refine ev_aload_0 85 d_mo_type_85 ?_
        refine mo_getr 86 4 6 d_mo_type_86 lk_22 ?_
        refine ev_iload_3 89 d_mo_type_89 ?_
        refine ev_aload_0 90 d_mo_type_90 ?_
        refine mo_geti 91 56 d_mo_type_91 lk_160 ?_
        refine mo_astn (j := NT) 94 4 6 d_mo_type_94 (by exact hlt) ?_
        refine ev_aload_0 95 d_mo_type_95 ?_
        refine mo_getr 96 5 7 d_mo_type_96 lk_25 ?_
        refine ev_iload_3 99 d_mo_type_99 ?_
        refine ev_aload_0 100 d_mo_type_100 ?_
        refine mo_geti 101 10 d_mo_type_101 lk_154 ?_
        refine mo_astn (j := NT) 104 5 7 d_mo_type_104 (by exact hlt) ?_
        refine ev_iconst_0 105 d_mo_type_105 ?_
        refine ev_istore_4 106 d_mo_type_106 ?_
        refine ev_eq (L108 hok hlt (nd + 1) 0 (by omega) (by omega)) (h3 := ?_)
        refine congrArg (mo_W mo_ci am kI kZ _) ?_
        rw [show mo_tp (B 8) (B 11) NT 0 = B 8 from rfl, show mo_tp (B 9) (la_os k (la_al dr al nd) dr al sz (B 59) nd) NT 0 = B 9 from rfl]
        rw [show va_up (va_up (va_up (va_up (va_up (va_up (va_up (va_up (va_up B 59 (la_os k (la_al dr al nd) dr al sz (B 59) nd)) 2 (upd (B 2) NT k)) 3 (upd (B 3) NT n)) 4 (upd (B 4) NT (if k = 9 ∨ k = 10 then nI (mo_ut (la_en k (la_al dr al nd) dr al sz nd) (la_al dr al nd)) else mo_psz k))) 5 (upd (B 5) NT (if k = 9 ∨ k = 10 then nI (la_al dr al nd) else la_a0 k))) 6 (upd (B 6) NT (nI (la_dp dr dp nd)))) 7 (upd (B 7) NT (nI nd))) 8 (B 8)) 9 (B 9) = (va_up (va_up (va_up (va_up (va_up (va_up (va_up B 59 (la_os k (la_al dr al nd) dr al sz (B 59) nd)) 2 (upd (B 2) NT k)) 3 (upd (B 3) NT n)) 4 (upd (B 4) NT (if k = 9 ∨ k = 10 then nI (mo_ut (la_en k (la_al dr al nd) dr al sz nd) (la_al dr al nd)) else mo_psz k))) 5 (upd (B 5) NT (if k = 9 ∨ k = 10 then nI (la_al dr al nd) else la_a0 k))) 6 (upd (B 6) NT (nI (la_dp dr dp nd)))) 7 (upd (B 7) NT (nI nd))) from by
          rw [show B 8 = (va_up (va_up (va_up (va_up (va_up (va_up (va_up B 59 (la_os k (la_al dr al nd) dr al sz (B 59) nd)) 2 (upd (B 2) NT k)) 3 (upd (B 3) NT n)) 4 (upd (B 4) NT (if k = 9 ∨ k = 10 then nI (mo_ut (la_en k (la_al dr al nd) dr al sz nd) (la_al dr al nd)) else mo_psz k))) 5 (upd (B 5) NT (if k = 9 ∨ k = 10 then nI (la_al dr al nd) else la_a0 k))) 6 (upd (B 6) NT (nI (la_dp dr dp nd)))) 7 (upd (B 7) NT (nI nd))) 8 from rfl, mo_upid, show B 9 = (va_up (va_up (va_up (va_up (va_up (va_up (va_up B 59 (la_os k (la_al dr al nd) dr al sz (B 59) nd)) 2 (upd (B 2) NT k)) 3 (upd (B 3) NT n)) 4 (upd (B 4) NT (if k = 9 ∨ k = 10 then nI (mo_ut (la_en k (la_al dr al nd) dr al sz nd) (la_al dr al nd)) else mo_psz k))) 5 (upd (B 5) NT (if k = 9 ∨ k = 10 then nI (la_al dr al nd) else la_a0 k))) 6 (upd (B 6) NT (nI (la_dp dr dp nd)))) 7 (upd (B 7) NT (nI nd))) 9 from rfl, mo_upid]]
        rw [← hnd]; rfl
      · exact absurd (mo_r0 hx) c31
    · refine ev_iconst_2 23 d_mo_type_23 ?_
      refine ev_goto 24 28 d_mo_type_24 ?_
      refine mo_calli1 28 d_mo_type_28 hZ kc_157 (mt_refuses hZ _) (fun x F9 B9 h9 => ?_)
      obtain ⟨hx, e1, e2⟩ := h9
      subst F9
      subst B9
      refine ev_ifeq 31 36 d_mo_type_31 (fun c31 => ?_) (fun c31 => ?_)
      · exact absurd c31 (mo_rk hx (by decide))
      · refine ev_iconst_0 34 d_mo_type_34 ?_
        refine ev_iret 35 d_mo_type_35 rfl ?_
        exact ⟨_, _, _, rfl, rfl, Or.inr (Or.inl ⟨hok, n_eq NT 32 c20 hNT, rfl, rfl, rfl⟩)⟩
  · refine ev_iconst_1 10 d_mo_type_10 ?_
    refine ev_goto 11 28 d_mo_type_11 ?_
    refine mo_calli1 28 d_mo_type_28 hZ kc_157 (mt_refuses hZ _) (fun x F9 B9 h9 => ?_)
    obtain ⟨hx, e1, e2⟩ := h9
    subst F9
    subst B9
    refine ev_ifeq 31 36 d_mo_type_31 (fun c31 => ?_) (fun c31 => ?_)
    · exact absurd c31 (mo_rk hx (by decide))
    · refine ev_iconst_0 34 d_mo_type_34 ?_
      refine ev_iret 35 d_mo_type_35 rfl ?_
      rcases h with ⟨a, -, e1, e2⟩ | ⟨a, b, e1, e2⟩
      · subst F1; subst B1
        exact ⟨_, _, _, rfl, rfl, Or.inl ⟨fun z => a z.1, rfl, Or.inl ⟨rfl, rfl⟩⟩⟩
      · subst F1; subst B1
        exact ⟨_, _, _, rfl, rfl, Or.inl ⟨fun z => mo_b0 b c7 z.2, rfl, Or.inr ⟨rfl, rfl⟩⟩⟩
