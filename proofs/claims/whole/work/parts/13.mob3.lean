theorem n_s1 {a : Nat} (h : 0 < a) : nI a - 1 = nI (a - 1) := by
  obtain ⟨b, rfl⟩ : ∃ b, a = b + 1 := ⟨a - 1, by omega⟩
  exact nI_pred b
theorem n_rng {x : Int32} (h1 : ¬ x < 1) (h2 : ¬ (16 : Int32) < x) : ∃ j : Nat, 1 ≤ j ∧ j ≤ 16 ∧ x = nI j := by
  obtain ⟨j, hj, rfl⟩ := nI_of2 (M := 16) (n := 16) rfl (fun z => h1 (Int32.lt_of_lt_of_le z (by decide))) (Int32.not_lt.mp h2)
  exact ⟨j, n_nlt j 1 h1, hj, rfl⟩
theorem mo_fh_le (u : Nat → Int32) (b n : Nat) : mo_fh u b n ≤ 16 := by
  induction n with
  | zero => exact Nat.zero_le _
  | succ n ih =>
    rw [mo_fh]
    split
    · exact Nat.sub_le _ _
    · exact ih
theorem n_z {a : Nat} (h : a < 2147483648) : nI a = 0 ↔ a = 0 := ⟨fun z => n_eq a 0 z, fun z => by rw [z]; rfl⟩
/-- an instance's number -/
theorem n_ins {x : Int32} {N : Nat} {y : Int32} (hy : y = nI N) (hN : N ≤ 6) (h : ¬ x < 0 ∧ ¬ y ≤ x) : ∃ j : Nat, j < N ∧ x = nI j := by
  obtain ⟨j, hj, rfl⟩ := nI_of h.1
  exact ⟨j, n_nle N j h.2 hy rfl, rfl⟩

set_option maxHeartbeats 4000000 in
set_option maxRecDepth 100000 in
theorem mt_make {l : Launch} {D : va_G} {tl : List (ClassId × FieldType)} {Z : (Nat → Prop) → State → Heap → Prop} {kI kZ : ClassId} {am : Nat → Nat} {F : Nat → Int32} {B : Nat → Nat → Int32} (hZ : ev_Zok Z) (k : Int32) (Lv : Nat) (hLv : F 29 = nI Lv) (hL6 : Lv ≤ 6) (R : Nat) (hR : 0 < Lv → B 30 (Lv - 1) = nI R ∧ R < 6) (Md : Nat) (hM : F 22 = nI Md) (hM2 : Md < 1024) : MT (mo_π l D cl_A kI kZ tl Z) m_make 0 0 [.ref (am 60), .int k] (mo_W mo_ci am kI kZ F B) (mo_qi am kI kZ (fun x F1 B1 => (F 29 = 0 ∧ x = 0 ∧ F1 = upd F 0 1 ∧ B1 = B) ∨ (¬ F 29 = 0 ∧ (k < 0 ∨ 3 < k) ∧ x = 0 ∧ F1 = upd F 0 2 ∧ B1 = B) ∨ (¬ F 29 = 0 ∧ ¬ k < 0 ∧ ¬ 3 < k ∧ mo_fh (B 16) (17 * R) 16 = 0 ∧ x = 0 ∧ F1 = upd F 0 3 ∧ B1 = B) ∨ (¬ F 29 = 0 ∧ ¬ k < 0 ∧ ¬ 3 < k ∧ mo_fh (B 16) (17 * R) 16 ≠ 0 ∧ x = nI (mo_fh (B 16) (17 * R) 16) ∧ F1 = upd (upd F 0 0) 22 (F 22 + 1) ∧ B1 = va_up (va_up (va_up (va_up B 16 (upd (B 16) (17 * R + mo_fh (B 16) (17 * R) 16) 1)) 18 (upd (B 18) (17 * R + mo_fh (B 16) (17 * R) 16) 1)) 17 (upd (B 17) (17 * R + mo_fh (B 16) (17 * R) 16) (F 22))) 23 (upd (B 23) Md k)))) := by
  refine mt_of mo_pl rfl (Nat.le_of_ble_eq_true rfl) (ev_eq (lv' := [some (.ref (am 60)), some (.int k), none, none]) ?_)
  refine ev_aload_0 0 d_mo_make_0 ?_
  refine ev_aload_0 1 d_mo_make_1 ?_
  refine mo_geti 2 29 d_mo_make_2 lk_208 ?_
  refine ev_ifne 5 12 d_mo_make_5 (fun c5 => ?_) (fun c5 => ?_)
  · have hp : 0 < Lv := Nat.pos_of_ne_zero (fun z => c5 (by rw [hLv, z]; rfl))
    refine ev_iload_1 12 d_mo_make_12 ?_
    refine ev_iflt 13 21 d_mo_make_13 (fun c13 => ?_) (fun c13 => ?_)
    · refine ev_iconst_2 21 d_mo_make_21 ?_
      refine ev_goto 22 48 d_mo_make_22 ?_
      refine mo_calli1 48 d_mo_make_48 hZ kc_157 (mt_refuses hZ _) (fun x F1 B1 h => ?_)
      obtain ⟨hx, e1, e2⟩ := h
      subst F1
      subst B1
      refine ev_ifeq 51 56 d_mo_make_51 (fun c51 => ?_) (fun c51 => ?_)
      · exact absurd c51 (mo_rk hx (by decide))
      · refine ev_iconst_0 54 d_mo_make_54 ?_
        refine ev_iret 55 d_mo_make_55 rfl ?_
        exact ⟨_, _, _, rfl, rfl, Or.inr (Or.inl ⟨c5, Or.inl c13, rfl, rfl, rfl⟩)⟩
    · refine ev_iload_1 16 d_mo_make_16 ?_
      refine ev_iconst_3 17 d_mo_make_17 ?_
      refine ev_icmple 18 25 d_mo_make_18 (fun c18 => ?_) (fun c18 => ?_)
      · refine ev_aload_0 25 d_mo_make_25 ?_
        refine ev_aload_0 26 d_mo_make_26 ?_
        refine mo_getr 27 23 30 d_mo_make_27 lk_80 ?_
        refine ev_aload_0 30 d_mo_make_30 ?_
        refine mo_geti 31 29 d_mo_make_31 lk_208 ?_
        refine ev_iconst_1 34 d_mo_make_34 ?_
        refine ev_isub 35 d_mo_make_35 ?_
        refine ev_topi (nI (Lv - 1)) (by show F 29 - 1 = nI (Lv - 1); rw [hLv]; exact n_s1 hp) ?_
        refine mo_aldn (j := Lv - 1) 36 23 30 d_mo_make_36 (by show Lv - 1 < 6; omega) ?_
        refine ev_topi (nI R) (hR hp).1 ?_
        refine mo_calli1 37 d_mo_make_37 hZ kc_215 (mt_freeHandle hZ R (hR hp).2) (fun y F1 B1 h => ?_)
        obtain ⟨rfl, e1, e2⟩ := h
        subst F1
        subst B1
        refine ev_ifne 40 47 d_mo_make_40 (fun c40 => ?_) (fun c40 => ?_)
        · refine ev_iconst_0 47 d_mo_make_47 ?_
          refine mo_calli1 48 d_mo_make_48 hZ kc_157 (mt_refuses hZ _) (fun x F1 B1 h => ?_)
          obtain ⟨hx, e1, e2⟩ := h
          subst F1
          subst B1
          refine ev_ifeq 51 56 d_mo_make_51 (fun c51 => ?_) (fun c51 => ?_)
          · refine ev_aload_0 56 d_mo_make_56 ?_
            refine ev_aload_0 57 d_mo_make_57 ?_
            refine mo_getr 58 23 30 d_mo_make_58 lk_80 ?_
            refine ev_aload_0 61 d_mo_make_61 ?_
            refine mo_geti 62 29 d_mo_make_62 lk_208 ?_
            refine ev_iconst_1 65 d_mo_make_65 ?_
            refine ev_isub 66 d_mo_make_66 ?_
            refine ev_topi (nI (Lv - 1)) (by show F 29 - 1 = nI (Lv - 1); rw [hLv]; exact n_s1 hp) ?_
            refine mo_aldn (j := Lv - 1) 67 23 30 d_mo_make_67 (by show Lv - 1 < 6; omega) ?_
            refine ev_topi (nI R) (hR hp).1 ?_
            refine mo_calli1 68 d_mo_make_68 hZ kc_215 (mt_freeHandle hZ R (hR hp).2) (fun y F1 B1 h => ?_)
            obtain ⟨rfl, e1, e2⟩ := h
            subst F1
            subst B1
            refine ev_istore_2 71 d_mo_make_71 ?_
            refine ev_bipush (17) 72 d_mo_make_72 (by decide) ?_
            refine ev_aload_0 74 d_mo_make_74 ?_
            refine mo_getr 75 23 30 d_mo_make_75 lk_80 ?_
            refine ev_aload_0 78 d_mo_make_78 ?_
            refine mo_geti 79 29 d_mo_make_79 lk_208 ?_
            refine ev_iconst_1 82 d_mo_make_82 ?_
            refine ev_isub 83 d_mo_make_83 ?_
            refine ev_topi (nI (Lv - 1)) (by show F 29 - 1 = nI (Lv - 1); rw [hLv]; exact n_s1 hp) ?_
            refine mo_aldn (j := Lv - 1) 84 23 30 d_mo_make_84 (by show Lv - 1 < 6; omega) ?_
            refine ev_topi (nI R) (hR hp).1 ?_
            refine ev_imul 85 d_mo_make_85 ?_
            refine ev_iload_2 86 d_mo_make_86 ?_
            refine ev_iadd 87 d_mo_make_87 ?_
            refine ev_topi (nI (17 * R + mo_fh (B 16) (17 * R) 16)) (by rw [n_17, pk_mul, nI_add]) ?_
            refine ev_istore_3 88 d_mo_make_88 ?_
            refine ev_aload_0 89 d_mo_make_89 ?_
            refine mo_getr 90 12 16 d_mo_make_90 lk_46 ?_
            refine ev_iload_3 93 d_mo_make_93 ?_
            refine ev_iconst_1 94 d_mo_make_94 ?_
            refine mo_zstn (j := 17 * R + mo_fh (B 16) (17 * R) 16) 95 12 16 d_mo_make_95 (by have := mo_fh_le (B 16) (17 * R) 16; have := (hR hp).2; show 17 * R + mo_fh (B 16) (17 * R) 16 < 102; omega) (by exact Or.inr rfl) ?_
            refine ev_aload_0 96 d_mo_make_96 ?_
            refine mo_getr 97 14 18 d_mo_make_97 lk_53 ?_
            refine ev_iload_3 100 d_mo_make_100 ?_
            refine ev_iconst_1 101 d_mo_make_101 ?_
            refine mo_zstn (j := 17 * R + mo_fh (B 16) (17 * R) 16) 102 14 18 d_mo_make_102 (by have := mo_fh_le (B 16) (17 * R) 16; have := (hR hp).2; show 17 * R + mo_fh (B 16) (17 * R) 16 < 102; omega) (by exact Or.inr rfl) ?_
            refine ev_aload_0 103 d_mo_make_103 ?_
            refine mo_getr 104 13 17 d_mo_make_104 lk_50 ?_
            refine ev_iload_3 107 d_mo_make_107 ?_
            refine ev_aload_0 108 d_mo_make_108 ?_
            refine mo_geti 109 22 d_mo_make_109 lk_218 ?_
            refine mo_astn (j := 17 * R + mo_fh (B 16) (17 * R) 16) 112 13 17 d_mo_make_112 (by have := mo_fh_le (B 16) (17 * R) 16; have := (hR hp).2; show 17 * R + mo_fh (B 16) (17 * R) 16 < 102; omega) ?_
            refine ev_aload_0 113 d_mo_make_113 ?_
            refine mo_getr 114 18 23 d_mo_make_114 lk_65 ?_
            refine ev_aload_0 117 d_mo_make_117 ?_
            refine mo_geti 118 22 d_mo_make_118 lk_218 ?_
            refine ev_iload_1 121 d_mo_make_121 ?_
            refine ev_sndi (nI (Md)) (by exact hM) ?_
            refine mo_astn (j := Md) 122 18 23 d_mo_make_122 (by exact hM2) ?_
            refine ev_aload_0 123 d_mo_make_123 ?_
            refine ev_dup_a 124 d_mo_make_124 ?_
            refine mo_geti 125 22 d_mo_make_125 lk_218 ?_
            refine ev_iconst_1 128 d_mo_make_128 ?_
            refine ev_iadd 129 d_mo_make_129 ?_
            refine mo_puti 130 22 d_mo_make_130 lp_218 ?_
            refine ev_iload_2 133 d_mo_make_133 ?_
            refine ev_iret 134 d_mo_make_134 rfl ?_
            exact ⟨_, _, _, rfl, rfl, Or.inr (Or.inr (Or.inr ⟨c5, c13, Int32.not_lt.mpr c18, fun z => c40 (by rw [z]; rfl), rfl, rfl, rfl⟩))⟩
          · exact absurd (mo_r0 hx) c51
        · refine ev_iconst_3 43 d_mo_make_43 ?_
          refine ev_goto 44 48 d_mo_make_44 ?_
          refine mo_calli1 48 d_mo_make_48 hZ kc_157 (mt_refuses hZ _) (fun x F1 B1 h => ?_)
          obtain ⟨hx, e1, e2⟩ := h
          subst F1
          subst B1
          refine ev_ifeq 51 56 d_mo_make_51 (fun c51 => ?_) (fun c51 => ?_)
          · exact absurd c51 (mo_rk hx (by decide))
          · refine ev_iconst_0 54 d_mo_make_54 ?_
            refine ev_iret 55 d_mo_make_55 rfl ?_
            exact ⟨_, _, _, rfl, rfl, Or.inr (Or.inr (Or.inl ⟨c5, c13, Int32.not_lt.mpr c18, (n_z (by have := mo_fh_le (B 16) (17 * R) 16; omega)).mp c40, rfl, rfl, rfl⟩))⟩
      · refine ev_iconst_2 21 d_mo_make_21 ?_
        refine ev_goto 22 48 d_mo_make_22 ?_
        refine mo_calli1 48 d_mo_make_48 hZ kc_157 (mt_refuses hZ _) (fun x F1 B1 h => ?_)
        obtain ⟨hx, e1, e2⟩ := h
        subst F1
        subst B1
        refine ev_ifeq 51 56 d_mo_make_51 (fun c51 => ?_) (fun c51 => ?_)
        · exact absurd c51 (mo_rk hx (by decide))
        · refine ev_iconst_0 54 d_mo_make_54 ?_
          refine ev_iret 55 d_mo_make_55 rfl ?_
          exact ⟨_, _, _, rfl, rfl, Or.inr (Or.inl ⟨c5, Or.inr (Int32.not_le.mp c18), rfl, rfl, rfl⟩)⟩
  · refine ev_iconst_1 8 d_mo_make_8 ?_
    refine ev_goto 9 48 d_mo_make_9 ?_
    refine mo_calli1 48 d_mo_make_48 hZ kc_157 (mt_refuses hZ _) (fun x F1 B1 h => ?_)
    obtain ⟨hx, e1, e2⟩ := h
    subst F1
    subst B1
    refine ev_ifeq 51 56 d_mo_make_51 (fun c51 => ?_) (fun c51 => ?_)
    · exact absurd c51 (mo_rk hx (by decide))
    · refine ev_iconst_0 54 d_mo_make_54 ?_
      refine ev_iret 55 d_mo_make_55 rfl ?_
      exact ⟨_, _, _, rfl, rfl, Or.inl ⟨c5, rfl, rfl, rfl⟩⟩

set_option maxHeartbeats 4000000 in
set_option maxRecDepth 100000 in
theorem mt_drop {l : Launch} {D : va_G} {tl : List (ClassId × FieldType)} {Z : (Nat → Prop) → State → Heap → Prop} {kI kZ : ClassId} {am : Nat → Nat} {F : Nat → Int32} {B : Nat → Nat → Int32} (hZ : ev_Zok Z) (h : Int32) (Lv : Nat) (hLv : F 29 = nI Lv) (hL6 : Lv ≤ 6) (R : Nat) (hR : 0 < Lv → B 30 (Lv - 1) = nI R ∧ R < 6) (hG : ∀ j, 1 ≤ j → j ≤ 16 → ¬ B 16 (17 * R + j) = 0 → ¬ B 18 (17 * R + j) = 0 → vp_in (B 17 (17 * R + j)) 1024) (hO : ∀ y, B 18 y = 0 ∨ B 18 y = 1) : MT (mo_π l D cl_A kI kZ tl Z) m_drop 0 0 [.ref (am 60), .int h] (mo_W mo_ci am kI kZ F B) (mo_qi am kI kZ (fun x F1 B1 => (F 29 = 0 ∧ x = 0 ∧ F1 = upd F 0 1 ∧ B1 = B) ∨ (¬ F 29 = 0 ∧ (∀ j, 1 ≤ j → j ≤ 16 → h = nI j → B 16 (17 * R + j) = 0) ∧ x = 0 ∧ F1 = upd F 0 2 ∧ B1 = B) ∨ (¬ F 29 = 0 ∧ ∃ j, 1 ≤ j ∧ j ≤ 16 ∧ h = nI j ∧ ¬ B 16 (17 * R + j) = 0 ∧ ¬ mo_ln B (nI (17 * R + j)) (B 21 (17 * R + j)) 102 ≤ 0 ∧ x = 0 ∧ F1 = upd F 0 3 ∧ B1 = B) ∨ (¬ F 29 = 0 ∧ ∃ j, 1 ≤ j ∧ j ≤ 16 ∧ h = nI j ∧ ¬ B 16 (17 * R + j) = 0 ∧ mo_ln B (nI (17 * R + j)) (B 21 (17 * R + j)) 102 ≤ 0 ∧ x = B 18 (17 * R + j) ∧ F1 = upd F 0 0 ∧ ((B 18 (17 * R + j) = 0 ∧ B1 = va_up B 16 (upd (B 16) (17 * R + j) 0)) ∨ (¬ B 18 (17 * R + j) = 0 ∧ B1 = va_up (va_up B 16 (upd (B 16) (17 * R + j) 0)) 24 (upd (B 24) (B 17 (17 * R + j)).toNatClampNeg 1)))))) := by
  refine mt_of mo_pl rfl (Nat.le_of_ble_eq_true rfl) (ev_eq (lv' := [some (.ref (am 60)), some (.int h), none, none]) ?_)
  refine ev_aload_0 0 d_mo_drop_0 ?_
  refine mo_geti 1 29 d_mo_drop_1 lk_208 ?_
  refine ev_ifle 4 46 d_mo_drop_4 (fun c4 => ?_) (fun c4 => ?_)
  · refine ev_iconst_0 46 d_mo_drop_46 ?_
    refine ev_istore_2 47 d_mo_drop_47 ?_
    refine ev_aload_0 48 d_mo_drop_48 ?_
    refine ev_aload_0 49 d_mo_drop_49 ?_
    refine mo_geti 50 29 d_mo_drop_50 lk_208 ?_
    refine ev_ifne 53 60 d_mo_drop_53 (fun c53 => ?_) (fun c53 => ?_)
    · exact absurd (show F 29 = 0 by have := n_le Lv 0 c4 hLv; rw [hLv, show Lv = 0 by omega]; rfl) c53
    · refine ev_iconst_1 56 d_mo_drop_56 ?_
      refine ev_goto 57 96 d_mo_drop_57 ?_
      refine mo_calli1 96 d_mo_drop_96 hZ kc_157 (mt_refuses hZ _) (fun x F1 B1 h => ?_)
      obtain ⟨hx, e1, e2⟩ := h
      subst F1
      subst B1
      refine ev_ifeq 99 104 d_mo_drop_99 (fun c99 => ?_) (fun c99 => ?_)
      · exact absurd c99 (mo_rk hx (by decide))
      · refine ev_iconst_0 102 d_mo_drop_102 ?_
        refine ev_zret 103 d_mo_drop_103 rfl ?_ ?_
        · first | rfl | (show narrow .boolean (.int (B 18 (17 * R + jj))) = .int (B 18 (17 * R + jj)); rcases hO (17 * R + jj) with z | z <;> rw [z] <;> rfl)
        exact ⟨_, _, _, rfl, rfl, Or.inl ⟨c53, rfl, rfl, rfl⟩⟩
  · have hp : 0 < Lv := Nat.pos_of_ne_zero (fun z => c4 (by rw [hLv, z]; decide))
    refine ev_iload_1 7 d_mo_drop_7 ?_
    refine ev_iconst_1 8 d_mo_drop_8 ?_
    refine ev_icmplt 9 46 d_mo_drop_9 (fun c9 => ?_) (fun c9 => ?_)
    · refine ev_iconst_0 46 d_mo_drop_46 ?_
      refine ev_istore_2 47 d_mo_drop_47 ?_
      refine ev_aload_0 48 d_mo_drop_48 ?_
      refine ev_aload_0 49 d_mo_drop_49 ?_
      refine mo_geti 50 29 d_mo_drop_50 lk_208 ?_
      refine ev_ifne 53 60 d_mo_drop_53 (fun c53 => ?_) (fun c53 => ?_)
      · refine ev_iload_2 60 d_mo_drop_60 ?_
        refine ev_ifne 61 68 d_mo_drop_61 (fun c61 => ?_) (fun c61 => ?_)
        · exact absurd rfl c61
        · refine ev_iconst_2 64 d_mo_drop_64 ?_
          refine ev_goto 65 96 d_mo_drop_65 ?_
          refine mo_calli1 96 d_mo_drop_96 hZ kc_157 (mt_refuses hZ _) (fun x F1 B1 h => ?_)
          obtain ⟨hx, e1, e2⟩ := h
          subst F1
          subst B1
          refine ev_ifeq 99 104 d_mo_drop_99 (fun c99 => ?_) (fun c99 => ?_)
          · exact absurd c99 (mo_rk hx (by decide))
          · refine ev_iconst_0 102 d_mo_drop_102 ?_
            refine ev_zret 103 d_mo_drop_103 rfl ?_ ?_
            · first | rfl | (show narrow .boolean (.int (B 18 (17 * R + jj))) = .int (B 18 (17 * R + jj)); rcases hO (17 * R + jj) with z | z <;> rw [z] <;> rfl)
            exact ⟨_, _, _, rfl, rfl, Or.inr (Or.inl ⟨c53, fun j h1 h2 hj => absurd (by rw [hj] at c9; exact n_lt j 1 c9) (by omega), rfl, rfl, rfl⟩)⟩
      · exact absurd (show F 29 ≤ 0 by rw [show F 29 = 0 from c53]; decide) c4
    · refine ev_iload_1 12 d_mo_drop_12 ?_
      refine ev_bipush (16) 13 d_mo_drop_13 (by decide) ?_
      refine ev_icmpgt 15 46 d_mo_drop_15 (fun c15 => ?_) (fun c15 => ?_)
      · refine ev_iconst_0 46 d_mo_drop_46 ?_
        refine ev_istore_2 47 d_mo_drop_47 ?_
        refine ev_aload_0 48 d_mo_drop_48 ?_
        refine ev_aload_0 49 d_mo_drop_49 ?_
        refine mo_geti 50 29 d_mo_drop_50 lk_208 ?_
        refine ev_ifne 53 60 d_mo_drop_53 (fun c53 => ?_) (fun c53 => ?_)
        · refine ev_iload_2 60 d_mo_drop_60 ?_
          refine ev_ifne 61 68 d_mo_drop_61 (fun c61 => ?_) (fun c61 => ?_)
          · exact absurd rfl c61
          · refine ev_iconst_2 64 d_mo_drop_64 ?_
            refine ev_goto 65 96 d_mo_drop_65 ?_
            refine mo_calli1 96 d_mo_drop_96 hZ kc_157 (mt_refuses hZ _) (fun x F1 B1 h => ?_)
            obtain ⟨hx, e1, e2⟩ := h
            subst F1
            subst B1
            refine ev_ifeq 99 104 d_mo_drop_99 (fun c99 => ?_) (fun c99 => ?_)
            · exact absurd c99 (mo_rk hx (by decide))
            · refine ev_iconst_0 102 d_mo_drop_102 ?_
              refine ev_zret 103 d_mo_drop_103 rfl ?_ ?_
              · first | rfl | (show narrow .boolean (.int (B 18 (17 * R + jj))) = .int (B 18 (17 * R + jj)); rcases hO (17 * R + jj) with z | z <;> rw [z] <;> rfl)
              exact ⟨_, _, _, rfl, rfl, Or.inr (Or.inl ⟨c53, fun j h1 h2 hj => absurd (by rw [hj] at c15; exact n_lt 16 j c15) (by omega), rfl, rfl, rfl⟩)⟩
        · exact absurd (show F 29 ≤ 0 by rw [show F 29 = 0 from c53]; decide) c4
      · obtain ⟨jj, hj1, hj2, rfl⟩ := n_rng c9 c15
        refine ev_aload_0 18 d_mo_drop_18 ?_
        refine mo_getr 19 12 16 d_mo_drop_19 lk_46 ?_
        refine ev_bipush (17) 22 d_mo_drop_22 (by decide) ?_
        refine ev_aload_0 24 d_mo_drop_24 ?_
        refine mo_getr 25 23 30 d_mo_drop_25 lk_80 ?_
        refine ev_aload_0 28 d_mo_drop_28 ?_
        refine mo_geti 29 29 d_mo_drop_29 lk_208 ?_
        refine ev_iconst_1 32 d_mo_drop_32 ?_
        refine ev_isub 33 d_mo_drop_33 ?_
        refine ev_topi (nI (Lv - 1)) (by show F 29 - 1 = nI (Lv - 1); rw [hLv]; exact n_s1 hp) ?_
        refine mo_aldn (j := Lv - 1) 34 23 30 d_mo_drop_34 (by show Lv - 1 < 6; omega) ?_
        refine ev_topi (nI R) (hR hp).1 ?_
        refine ev_imul 35 d_mo_drop_35 ?_
        refine ev_iload_1 36 d_mo_drop_36 ?_
        refine ev_iadd 37 d_mo_drop_37 ?_
        refine ev_topi (nI (17 * R + jj)) (by rw [n_17, pk_mul, nI_add]) ?_
        refine mo_zldn (j := 17 * R + jj) 38 12 16 d_mo_drop_38 (by have := (hR hp).2; show 17 * R + jj < 102; omega) ?_
        refine ev_ifeq 39 46 d_mo_drop_39 (fun c39 => ?_) (fun c39 => ?_)
        · refine ev_iconst_0 46 d_mo_drop_46 ?_
          refine ev_istore_2 47 d_mo_drop_47 ?_
          refine ev_aload_0 48 d_mo_drop_48 ?_
          refine ev_aload_0 49 d_mo_drop_49 ?_
          refine mo_geti 50 29 d_mo_drop_50 lk_208 ?_
          refine ev_ifne 53 60 d_mo_drop_53 (fun c53 => ?_) (fun c53 => ?_)
          · refine ev_iload_2 60 d_mo_drop_60 ?_
            refine ev_ifne 61 68 d_mo_drop_61 (fun c61 => ?_) (fun c61 => ?_)
            · exact absurd rfl c61
            · refine ev_iconst_2 64 d_mo_drop_64 ?_
              refine ev_goto 65 96 d_mo_drop_65 ?_
              refine mo_calli1 96 d_mo_drop_96 hZ kc_157 (mt_refuses hZ _) (fun x F1 B1 h => ?_)
              obtain ⟨hx, e1, e2⟩ := h
              subst F1
              subst B1
              refine ev_ifeq 99 104 d_mo_drop_99 (fun c99 => ?_) (fun c99 => ?_)
              · exact absurd c99 (mo_rk hx (by decide))
              · refine ev_iconst_0 102 d_mo_drop_102 ?_
                refine ev_zret 103 d_mo_drop_103 rfl ?_ ?_
                · first | rfl | (show narrow .boolean (.int (B 18 (17 * R + jj))) = .int (B 18 (17 * R + jj)); rcases hO (17 * R + jj) with z | z <;> rw [z] <;> rfl)
                exact ⟨_, _, _, rfl, rfl, Or.inr (Or.inl ⟨c53, fun j h1 h2 hj => by obtain rfl := (nI_eq (by omega) (by omega)).mp hj; exact c39, rfl, rfl, rfl⟩)⟩
          · exact absurd (show F 29 ≤ 0 by rw [show F 29 = 0 from c53]; decide) c4
        · refine ev_iconst_1 42 d_mo_drop_42 ?_
          refine ev_goto 43 47 d_mo_drop_43 ?_
          refine ev_istore_2 47 d_mo_drop_47 ?_
          refine ev_aload_0 48 d_mo_drop_48 ?_
          refine ev_aload_0 49 d_mo_drop_49 ?_
          refine mo_geti 50 29 d_mo_drop_50 lk_208 ?_
          refine ev_ifne 53 60 d_mo_drop_53 (fun c53 => ?_) (fun c53 => ?_)
          · refine ev_iload_2 60 d_mo_drop_60 ?_
            refine ev_ifne 61 68 d_mo_drop_61 (fun c61 => ?_) (fun c61 => ?_)
            · refine ev_aload_0 68 d_mo_drop_68 ?_
              refine ev_bipush (17) 69 d_mo_drop_69 (by decide) ?_
              refine ev_aload_0 71 d_mo_drop_71 ?_
              refine mo_getr 72 23 30 d_mo_drop_72 lk_80 ?_
              refine ev_aload_0 75 d_mo_drop_75 ?_
              refine mo_geti 76 29 d_mo_drop_76 lk_208 ?_
              refine ev_iconst_1 79 d_mo_drop_79 ?_
              refine ev_isub 80 d_mo_drop_80 ?_
              refine ev_topi (nI (Lv - 1)) (by show F 29 - 1 = nI (Lv - 1); rw [hLv]; exact n_s1 hp) ?_
              refine mo_aldn (j := Lv - 1) 81 23 30 d_mo_drop_81 (by show Lv - 1 < 6; omega) ?_
              refine ev_topi (nI R) (hR hp).1 ?_
              refine ev_imul 82 d_mo_drop_82 ?_
              refine ev_iload_1 83 d_mo_drop_83 ?_
              refine ev_iadd 84 d_mo_drop_84 ?_
              refine ev_topi (nI (17 * R + jj)) (by rw [n_17, pk_mul, nI_add]) ?_
              refine mo_calli1 85 d_mo_drop_85 hZ kc_221 (mt_loans hZ (17 * R + jj) (by have := (hR hp).2; show 17 * R + jj < 102; omega)) (fun y F1 B1 h => ?_)
              obtain ⟨rfl, e1, e2⟩ := h
              subst F1
              subst B1
              refine ev_ifle 88 95 d_mo_drop_88 (fun c88 => ?_) (fun c88 => ?_)
              · refine ev_iconst_0 95 d_mo_drop_95 ?_
                refine mo_calli1 96 d_mo_drop_96 hZ kc_157 (mt_refuses hZ _) (fun x F1 B1 h => ?_)
                obtain ⟨hx, e1, e2⟩ := h
                subst F1
                subst B1
                refine ev_ifeq 99 104 d_mo_drop_99 (fun c99 => ?_) (fun c99 => ?_)
                · refine ev_bipush (17) 104 d_mo_drop_104 (by decide) ?_
                  refine ev_aload_0 106 d_mo_drop_106 ?_
                  refine mo_getr 107 23 30 d_mo_drop_107 lk_80 ?_
                  refine ev_aload_0 110 d_mo_drop_110 ?_
                  refine mo_geti 111 29 d_mo_drop_111 lk_208 ?_
                  refine ev_iconst_1 114 d_mo_drop_114 ?_
                  refine ev_isub 115 d_mo_drop_115 ?_
                  refine ev_topi (nI (Lv - 1)) (by show F 29 - 1 = nI (Lv - 1); rw [hLv]; exact n_s1 hp) ?_
                  refine mo_aldn (j := Lv - 1) 116 23 30 d_mo_drop_116 (by show Lv - 1 < 6; omega) ?_
                  refine ev_topi (nI R) (hR hp).1 ?_
                  refine ev_imul 117 d_mo_drop_117 ?_
                  refine ev_iload_1 118 d_mo_drop_118 ?_
                  refine ev_iadd 119 d_mo_drop_119 ?_
                  refine ev_topi (nI (17 * R + jj)) (by rw [n_17, pk_mul, nI_add]) ?_
                  refine ev_istore_3 120 d_mo_drop_120 ?_
                  refine ev_aload_0 121 d_mo_drop_121 ?_
                  refine mo_getr 122 12 16 d_mo_drop_122 lk_46 ?_
                  refine ev_iload_3 125 d_mo_drop_125 ?_
                  refine ev_iconst_0 126 d_mo_drop_126 ?_
                  refine mo_zstn (j := 17 * R + jj) 127 12 16 d_mo_drop_127 (by have := (hR hp).2; show 17 * R + jj < 102; omega) (by exact Or.inl rfl) ?_
                  refine ev_aload_0 128 d_mo_drop_128 ?_
                  refine mo_getr 129 14 18 d_mo_drop_129 lk_53 ?_
                  refine ev_iload_3 132 d_mo_drop_132 ?_
                  refine mo_zldn (j := 17 * R + jj) 133 14 18 d_mo_drop_133 (by have := (hR hp).2; show 17 * R + jj < 102; omega) ?_
                  refine ev_ifeq 134 149 d_mo_drop_134 (fun c134 => ?_) (fun c134 => ?_)
                  · refine ev_aload_0 149 d_mo_drop_149 ?_
                    refine mo_getr 150 14 18 d_mo_drop_150 lk_53 ?_
                    refine ev_iload_3 153 d_mo_drop_153 ?_
                    refine mo_zldn (j := 17 * R + jj) 154 14 18 d_mo_drop_154 (by have := (hR hp).2; show 17 * R + jj < 102; omega) ?_
                    refine ev_zret 155 d_mo_drop_155 rfl ?_ ?_
                    · first | rfl | (show narrow .boolean (.int (B 18 (17 * R + jj))) = .int (B 18 (17 * R + jj)); rcases hO (17 * R + jj) with z | z <;> rw [z] <;> rfl)
                    exact ⟨_, _, _, rfl, rfl, Or.inr (Or.inr (Or.inr ⟨c53, jj, hj1, hj2, rfl, c39, c88, rfl, rfl, Or.inl ⟨c134, rfl⟩⟩))⟩
                  · refine ev_aload_0 137 d_mo_drop_137 ?_
                    refine mo_getr 138 19 24 d_mo_drop_138 lk_68 ?_
                    refine ev_aload_0 141 d_mo_drop_141 ?_
                    refine mo_getr 142 13 17 d_mo_drop_142 lk_50 ?_
                    refine ev_iload_3 145 d_mo_drop_145 ?_
                    refine mo_aldn (j := 17 * R + jj) 146 13 17 d_mo_drop_146 (by have := (hR hp).2; show 17 * R + jj < 102; omega) ?_
                    refine ev_iconst_1 147 d_mo_drop_147 ?_
                    refine mo_zst 148 19 24 d_mo_drop_148 (by exact hG jj hj1 hj2 c39 c134) ?_
                    refine ev_aload_0 149 d_mo_drop_149 ?_
                    refine mo_getr 150 14 18 d_mo_drop_150 lk_53 ?_
                    refine ev_iload_3 153 d_mo_drop_153 ?_
                    refine mo_zldn (j := 17 * R + jj) 154 14 18 d_mo_drop_154 (by have := (hR hp).2; show 17 * R + jj < 102; omega) ?_
                    refine ev_zret 155 d_mo_drop_155 rfl ?_ ?_
                    · first | rfl | (show narrow .boolean (.int (B 18 (17 * R + jj))) = .int (B 18 (17 * R + jj)); rcases hO (17 * R + jj) with z | z <;> rw [z] <;> rfl)
                    exact ⟨_, _, _, rfl, rfl, Or.inr (Or.inr (Or.inr ⟨c53, jj, hj1, hj2, rfl, c39, c88, rfl, rfl, Or.inr ⟨c134, rfl⟩⟩))⟩
                · exact absurd (mo_r0 hx) c99
              · refine ev_iconst_3 91 d_mo_drop_91 ?_
                refine ev_goto 92 96 d_mo_drop_92 ?_
                refine mo_calli1 96 d_mo_drop_96 hZ kc_157 (mt_refuses hZ _) (fun x F1 B1 h => ?_)
                obtain ⟨hx, e1, e2⟩ := h
                subst F1
                subst B1
                refine ev_ifeq 99 104 d_mo_drop_99 (fun c99 => ?_) (fun c99 => ?_)
                · exact absurd c99 (mo_rk hx (by decide))
                · refine ev_iconst_0 102 d_mo_drop_102 ?_
                  refine ev_zret 103 d_mo_drop_103 rfl ?_ ?_
                  · first | rfl | (show narrow .boolean (.int (B 18 (17 * R + jj))) = .int (B 18 (17 * R + jj)); rcases hO (17 * R + jj) with z | z <;> rw [z] <;> rfl)
                  exact ⟨_, _, _, rfl, rfl, Or.inr (Or.inr (Or.inl ⟨c53, jj, hj1, hj2, rfl, c39, c88, rfl, rfl, rfl⟩))⟩
            · exact absurd c61 (by decide)
          · exact absurd (show F 29 ≤ 0 by rw [show F 29 = 0 from c53]; decide) c4

def mo_hv (B : Nat → Nat → Int32) (y : Nat) (w : Int32) : Int32 := if B 16 y = 0 then -1 else if w = 0 then B 17 y else if w = 1 then B 23 (B 17 y).toNatClampNeg else if w = 2 then (if B 18 y = 0 then 0 else 1) else mo_ln B (nI y) (B 21 y) 102

set_option maxHeartbeats 4000000 in
set_option maxRecDepth 100000 in
theorem mt_handle {l : Launch} {D : va_G} {tl : List (ClassId × FieldType)} {Z : (Nat → Prop) → State → Heap → Prop} {kI kZ : ClassId} {am : Nat → Nat} {F : Nat → Int32} {B : Nat → Nat → Int32} (hZ : ev_Zok Z) (i : Int32) (h : Int32) (w : Int32) (NI : Nat) (hNI : F 12 = nI NI) (hN6 : NI ≤ 6) (hG : ∀ y, y < 102 → ¬ B 16 y = 0 → vp_in (B 17 y) 1024) : MT (mo_π l D cl_A kI kZ tl Z) m_handle 0 0 [.ref (am 60), .int i, .int h, .int w] (mo_W mo_ci am kI kZ F B) (mo_qi am kI kZ (fun x F1 B1 => (((¬ (¬ i < 0 ∧ ¬ F 12 ≤ i) ∨ h < 1 ∨ 16 < h ∨ w < 0 ∨ 3 < w) ∧ x = 0 ∧ F1 = upd F 0 1) ∨ (∃ ii jj, ii < NI ∧ 1 ≤ jj ∧ jj ≤ 16 ∧ i = nI ii ∧ h = nI jj ∧ ¬ w < 0 ∧ ¬ 3 < w ∧ x = mo_hv B (17 * ii + jj) w ∧ F1 = upd F 0 0)) ∧ B1 = B)) := by
  refine mt_of mo_pl rfl (Nat.le_of_ble_eq_true rfl) (ev_eq (lv' := [some (.ref (am 60)), some (.int i), some (.int h), some (.int w), none]) ?_)
  refine ev_aload_0 0 d_mo_handle_0 ?_
  refine ev_aload_0 1 d_mo_handle_1 ?_
  refine ev_iload_1 2 d_mo_handle_2 ?_
  refine mo_calli1 3 d_mo_handle_3 hZ kc_197 (mt_isInstance hZ _) (fun y F1 B1 h => ?_)
  obtain ⟨hy, e1, e2⟩ := h
  subst F1
  subst B1
  refine ev_ifeq 6 29 d_mo_handle_6 (fun c6 => ?_) (fun c6 => ?_)
  · refine ev_iconst_1 29 d_mo_handle_29 ?_
    refine ev_goto 30 34 d_mo_handle_30 ?_
    refine mo_calli1 34 d_mo_handle_34 hZ kc_157 (mt_refuses hZ _) (fun x F1 B1 h => ?_)
    obtain ⟨hx, e1, e2⟩ := h
    subst F1
    subst B1
    refine ev_ifeq 37 42 d_mo_handle_37 (fun c37 => ?_) (fun c37 => ?_)
    · exact absurd c37 (mo_rk hx (by decide))
    · refine ev_iconst_0 40 d_mo_handle_40 ?_
      refine ev_iret 41 d_mo_handle_41 rfl ?_
      exact ⟨_, _, _, rfl, rfl, Or.inl ⟨Or.inl (mo_b0 hy c6), rfl, rfl⟩, rfl⟩
  · refine ev_iload_2 9 d_mo_handle_9 ?_
    refine ev_iconst_1 10 d_mo_handle_10 ?_
    refine ev_icmplt 11 29 d_mo_handle_11 (fun c11 => ?_) (fun c11 => ?_)
    · refine ev_iconst_1 29 d_mo_handle_29 ?_
      refine ev_goto 30 34 d_mo_handle_30 ?_
      refine mo_calli1 34 d_mo_handle_34 hZ kc_157 (mt_refuses hZ _) (fun x F1 B1 h => ?_)
      obtain ⟨hx, e1, e2⟩ := h
      subst F1
      subst B1
      refine ev_ifeq 37 42 d_mo_handle_37 (fun c37 => ?_) (fun c37 => ?_)
      · exact absurd c37 (mo_rk hx (by decide))
      · refine ev_iconst_0 40 d_mo_handle_40 ?_
        refine ev_iret 41 d_mo_handle_41 rfl ?_
        exact ⟨_, _, _, rfl, rfl, Or.inl ⟨Or.inr (Or.inl c11), rfl, rfl⟩, rfl⟩
    · refine ev_iload_2 14 d_mo_handle_14 ?_
      refine ev_bipush (16) 15 d_mo_handle_15 (by decide) ?_
      refine ev_icmpgt 17 29 d_mo_handle_17 (fun c17 => ?_) (fun c17 => ?_)
      · refine ev_iconst_1 29 d_mo_handle_29 ?_
        refine ev_goto 30 34 d_mo_handle_30 ?_
        refine mo_calli1 34 d_mo_handle_34 hZ kc_157 (mt_refuses hZ _) (fun x F1 B1 h => ?_)
        obtain ⟨hx, e1, e2⟩ := h
        subst F1
        subst B1
        refine ev_ifeq 37 42 d_mo_handle_37 (fun c37 => ?_) (fun c37 => ?_)
        · exact absurd c37 (mo_rk hx (by decide))
        · refine ev_iconst_0 40 d_mo_handle_40 ?_
          refine ev_iret 41 d_mo_handle_41 rfl ?_
          exact ⟨_, _, _, rfl, rfl, Or.inl ⟨Or.inr (Or.inr (Or.inl c17)), rfl, rfl⟩, rfl⟩
      · refine ev_iload_3 20 d_mo_handle_20 ?_
        refine ev_iflt 21 29 d_mo_handle_21 (fun c21 => ?_) (fun c21 => ?_)
        · refine ev_iconst_1 29 d_mo_handle_29 ?_
          refine ev_goto 30 34 d_mo_handle_30 ?_
          refine mo_calli1 34 d_mo_handle_34 hZ kc_157 (mt_refuses hZ _) (fun x F1 B1 h => ?_)
          obtain ⟨hx, e1, e2⟩ := h
          subst F1
          subst B1
          refine ev_ifeq 37 42 d_mo_handle_37 (fun c37 => ?_) (fun c37 => ?_)
          · exact absurd c37 (mo_rk hx (by decide))
          · refine ev_iconst_0 40 d_mo_handle_40 ?_
            refine ev_iret 41 d_mo_handle_41 rfl ?_
            exact ⟨_, _, _, rfl, rfl, Or.inl ⟨Or.inr (Or.inr (Or.inr (Or.inl c21))), rfl, rfl⟩, rfl⟩
        · refine ev_iload_3 24 d_mo_handle_24 ?_
          refine ev_iconst_3 25 d_mo_handle_25 ?_
          refine ev_icmple 26 33 d_mo_handle_26 (fun c26 => ?_) (fun c26 => ?_)
          · refine ev_iconst_0 33 d_mo_handle_33 ?_
            refine mo_calli1 34 d_mo_handle_34 hZ kc_157 (mt_refuses hZ _) (fun x F1 B1 h => ?_)
            obtain ⟨hx, e1, e2⟩ := h
            subst F1
            subst B1
            refine ev_ifeq 37 42 d_mo_handle_37 (fun c37 => ?_) (fun c37 => ?_)
            · obtain ⟨ii, hii, rfl⟩ := n_ins hNI hN6 (mo_b1 hy c6)
              obtain ⟨jj, hj1, hj2, rfl⟩ := n_rng c11 c17
              refine ev_bipush (17) 42 d_mo_handle_42 (by decide) ?_
              refine ev_iload_1 44 d_mo_handle_44 ?_
              refine ev_imul 45 d_mo_handle_45 ?_
              refine ev_iload_2 46 d_mo_handle_46 ?_
              refine ev_iadd 47 d_mo_handle_47 ?_
              refine ev_topi (nI (17 * ii + jj)) (by rw [n_17, pk_mul, nI_add]) ?_
              refine ev_istore_4 48 d_mo_handle_48 ?_
              refine ev_aload_0 50 d_mo_handle_50 ?_
              refine mo_getr 51 12 16 d_mo_handle_51 lk_46 ?_
              refine ev_iload_4 54 d_mo_handle_54 ?_
              refine mo_zldn (j := 17 * ii + jj) 56 12 16 d_mo_handle_56 (by show 17 * ii + jj < 102; omega) ?_
              refine ev_ifne 57 62 d_mo_handle_57 (fun c57 => ?_) (fun c57 => ?_)
              · refine ev_iload_3 62 d_mo_handle_62 ?_
                refine ev_ifne 63 76 d_mo_handle_63 (fun c63 => ?_) (fun c63 => ?_)
                · refine ev_iload_3 76 d_mo_handle_76 ?_
                  refine ev_iconst_1 77 d_mo_handle_77 ?_
                  refine ev_icmpne 78 96 d_mo_handle_78 (fun c78 => ?_) (fun c78 => ?_)
                  · refine ev_iload_3 96 d_mo_handle_96 ?_
                    refine ev_iconst_2 97 d_mo_handle_97 ?_
                    refine ev_icmpne 98 119 d_mo_handle_98 (fun c98 => ?_) (fun c98 => ?_)
                    · refine ev_aload_0 119 d_mo_handle_119 ?_
                      refine ev_iload_4 120 d_mo_handle_120 ?_
                      refine mo_calli1 122 d_mo_handle_122 hZ kc_221 (mt_loans hZ (17 * ii + jj) (by show 17 * ii + jj < 102; omega)) (fun y F1 B1 h => ?_)
                      obtain ⟨rfl, e1, e2⟩ := h
                      subst F1
                      subst B1
                      refine ev_iret 125 d_mo_handle_125 rfl ?_
                      exact ⟨_, _, _, rfl, rfl, Or.inr ⟨ii, jj, hii, hj1, hj2, rfl, rfl, c21, Int32.not_lt.mpr c26, by rw [mo_hv, if_neg c57, if_neg c63, if_neg c78, if_neg c98], rfl⟩, rfl⟩
                    · refine ev_aload_0 101 d_mo_handle_101 ?_
                      refine mo_getr 102 14 18 d_mo_handle_102 lk_53 ?_
                      refine ev_iload_4 105 d_mo_handle_105 ?_
                      refine mo_zldn (j := 17 * ii + jj) 107 14 18 d_mo_handle_107 (by show 17 * ii + jj < 102; omega) ?_
                      refine ev_ifeq 108 115 d_mo_handle_108 (fun c108 => ?_) (fun c108 => ?_)
                      · refine ev_iconst_0 115 d_mo_handle_115 ?_
                        refine ev_goto 116 125 d_mo_handle_116 ?_
                        refine ev_iret 125 d_mo_handle_125 rfl ?_
                        exact ⟨_, _, _, rfl, rfl, Or.inr ⟨ii, jj, hii, hj1, hj2, rfl, rfl, c21, Int32.not_lt.mpr c26, by rw [mo_hv, if_neg c57, if_neg c63, if_neg c78, if_pos c98, if_pos c108], rfl⟩, rfl⟩
                      · refine ev_iconst_1 111 d_mo_handle_111 ?_
                        refine ev_goto 112 125 d_mo_handle_112 ?_
                        refine ev_iret 125 d_mo_handle_125 rfl ?_
                        exact ⟨_, _, _, rfl, rfl, Or.inr ⟨ii, jj, hii, hj1, hj2, rfl, rfl, c21, Int32.not_lt.mpr c26, by rw [mo_hv, if_neg c57, if_neg c63, if_neg c78, if_pos c98, if_neg c108], rfl⟩, rfl⟩
                  · refine ev_aload_0 81 d_mo_handle_81 ?_
                    refine mo_getr 82 18 23 d_mo_handle_82 lk_65 ?_
                    refine ev_aload_0 85 d_mo_handle_85 ?_
                    refine mo_getr 86 13 17 d_mo_handle_86 lk_50 ?_
                    refine ev_iload_4 89 d_mo_handle_89 ?_
                    refine mo_aldn (j := 17 * ii + jj) 91 13 17 d_mo_handle_91 (by show 17 * ii + jj < 102; omega) ?_
                    refine mo_ald 92 18 23 d_mo_handle_92 (by exact hG (17 * ii + jj) (by omega) c57) ?_
                    refine ev_goto 93 125 d_mo_handle_93 ?_
                    refine ev_iret 125 d_mo_handle_125 rfl ?_
                    exact ⟨_, _, _, rfl, rfl, Or.inr ⟨ii, jj, hii, hj1, hj2, rfl, rfl, c21, Int32.not_lt.mpr c26, by rw [mo_hv, if_neg c57, if_neg c63, if_pos c78], rfl⟩, rfl⟩
                · refine ev_aload_0 66 d_mo_handle_66 ?_
                  refine mo_getr 67 13 17 d_mo_handle_67 lk_50 ?_
                  refine ev_iload_4 70 d_mo_handle_70 ?_
                  refine mo_aldn (j := 17 * ii + jj) 72 13 17 d_mo_handle_72 (by show 17 * ii + jj < 102; omega) ?_
                  refine ev_goto 73 125 d_mo_handle_73 ?_
                  refine ev_iret 125 d_mo_handle_125 rfl ?_
                  exact ⟨_, _, _, rfl, rfl, Or.inr ⟨ii, jj, hii, hj1, hj2, rfl, rfl, c21, Int32.not_lt.mpr c26, by rw [mo_hv, if_neg c57, if_pos c63], rfl⟩, rfl⟩
              · refine ev_iconst_m1 60 d_mo_handle_60 ?_
                refine ev_iret 61 d_mo_handle_61 rfl ?_
                exact ⟨_, _, _, rfl, rfl, Or.inr ⟨ii, jj, hii, hj1, hj2, rfl, rfl, c21, Int32.not_lt.mpr c26, by rw [mo_hv, if_pos c57], rfl⟩, rfl⟩
            · exact absurd (mo_r0 hx) c37
          · refine ev_iconst_1 29 d_mo_handle_29 ?_
            refine ev_goto 30 34 d_mo_handle_30 ?_
            refine mo_calli1 34 d_mo_handle_34 hZ kc_157 (mt_refuses hZ _) (fun x F1 B1 h => ?_)
            obtain ⟨hx, e1, e2⟩ := h
            subst F1
            subst B1
            refine ev_ifeq 37 42 d_mo_handle_37 (fun c37 => ?_) (fun c37 => ?_)
            · exact absurd c37 (mo_rk hx (by decide))
            · refine ev_iconst_0 40 d_mo_handle_40 ?_
              refine ev_iret 41 d_mo_handle_41 rfl ?_
              exact ⟨_, _, _, rfl, rfl, Or.inl ⟨Or.inr (Or.inr (Or.inr (Or.inr (Int32.not_le.mp c26)))), rfl, rfl⟩, rfl⟩

set_option maxHeartbeats 4000000 in
set_option maxRecDepth 100000 in
theorem mt_state {l : Launch} {D : va_G} {tl : List (ClassId × FieldType)} {Z : (Nat → Prop) → State → Heap → Prop} {kI kZ : ClassId} {am : Nat → Nat} {F : Nat → Int32} {B : Nat → Nat → Int32} (hZ : ev_Zok Z) (i : Int32) (w : Int32) (NI : Nat) (hNI : F 12 = nI NI) (hN6 : NI ≤ 6) : MT (mo_π l D cl_A kI kZ tl Z) m_state 0 0 [.ref (am 60), .int i, .int w] (mo_W mo_ci am kI kZ F B) (mo_qi am kI kZ (fun x F1 B1 => (((¬ (¬ i < 0 ∧ ¬ F 12 ≤ i) ∨ w < 0 ∨ 2 < w) ∧ x = 0 ∧ F1 = upd F 0 1) ∨ (∃ ii, ii < NI ∧ i = nI ii ∧ ¬ w < 0 ∧ ¬ 2 < w ∧ x = (if w = 0 then B 15 ii else if w = 1 then B 14 ii else nI (mo_iu (B 16) (17 * ii) 16)) ∧ F1 = upd F 0 0)) ∧ B1 = B)) := by
  refine mt_of mo_pl rfl (Nat.le_of_ble_eq_true rfl) (ev_eq (lv' := [some (.ref (am 60)), some (.int i), some (.int w)]) ?_)
  refine ev_aload_0 0 d_mo_state_0 ?_
  refine ev_aload_0 1 d_mo_state_1 ?_
  refine ev_iload_1 2 d_mo_state_2 ?_
  refine mo_calli1 3 d_mo_state_3 hZ kc_197 (mt_isInstance hZ _) (fun y F1 B1 h => ?_)
  obtain ⟨hy, e1, e2⟩ := h
  subst F1
  subst B1
  refine ev_ifeq 6 18 d_mo_state_6 (fun c6 => ?_) (fun c6 => ?_)
  · refine ev_iconst_1 18 d_mo_state_18 ?_
    refine ev_goto 19 23 d_mo_state_19 ?_
    refine mo_calli1 23 d_mo_state_23 hZ kc_157 (mt_refuses hZ _) (fun x F1 B1 h => ?_)
    obtain ⟨hx, e1, e2⟩ := h
    subst F1
    subst B1
    refine ev_ifeq 26 31 d_mo_state_26 (fun c26 => ?_) (fun c26 => ?_)
    · exact absurd c26 (mo_rk hx (by decide))
    · refine ev_iconst_0 29 d_mo_state_29 ?_
      refine ev_iret 30 d_mo_state_30 rfl ?_
      exact ⟨_, _, _, rfl, rfl, Or.inl ⟨Or.inl (mo_b0 hy c6), rfl, rfl⟩, rfl⟩
  · refine ev_iload_2 9 d_mo_state_9 ?_
    refine ev_iflt 10 18 d_mo_state_10 (fun c10 => ?_) (fun c10 => ?_)
    · refine ev_iconst_1 18 d_mo_state_18 ?_
      refine ev_goto 19 23 d_mo_state_19 ?_
      refine mo_calli1 23 d_mo_state_23 hZ kc_157 (mt_refuses hZ _) (fun x F1 B1 h => ?_)
      obtain ⟨hx, e1, e2⟩ := h
      subst F1
      subst B1
      refine ev_ifeq 26 31 d_mo_state_26 (fun c26 => ?_) (fun c26 => ?_)
      · exact absurd c26 (mo_rk hx (by decide))
      · refine ev_iconst_0 29 d_mo_state_29 ?_
        refine ev_iret 30 d_mo_state_30 rfl ?_
        exact ⟨_, _, _, rfl, rfl, Or.inl ⟨Or.inr (Or.inl c10), rfl, rfl⟩, rfl⟩
    · refine ev_iload_2 13 d_mo_state_13 ?_
      refine ev_iconst_2 14 d_mo_state_14 ?_
      refine ev_icmple 15 22 d_mo_state_15 (fun c15 => ?_) (fun c15 => ?_)
      · refine ev_iconst_0 22 d_mo_state_22 ?_
        refine mo_calli1 23 d_mo_state_23 hZ kc_157 (mt_refuses hZ _) (fun x F1 B1 h => ?_)
        obtain ⟨hx, e1, e2⟩ := h
        subst F1
        subst B1
        refine ev_ifeq 26 31 d_mo_state_26 (fun c26 => ?_) (fun c26 => ?_)
        · obtain ⟨ii, hii, rfl⟩ := n_ins hNI hN6 (mo_b1 hy c6)
          refine ev_iload_2 31 d_mo_state_31 ?_
          refine ev_ifne 32 44 d_mo_state_32 (fun c32 => ?_) (fun c32 => ?_)
          · refine ev_iload_2 44 d_mo_state_44 ?_
            refine ev_iconst_1 45 d_mo_state_45 ?_
            refine ev_icmpne 46 58 d_mo_state_46 (fun c46 => ?_) (fun c46 => ?_)
            · refine ev_aload_0 58 d_mo_state_58 ?_
              refine ev_iload_1 59 d_mo_state_59 ?_
              refine mo_calli1 60 d_mo_state_60 hZ kc_291 (mt_inUse hZ ii (by omega)) (fun y F1 B1 h => ?_)
              obtain ⟨rfl, e1, e2⟩ := h
              subst F1
              subst B1
              refine ev_iret 63 d_mo_state_63 rfl ?_
              exact ⟨_, _, _, rfl, rfl, Or.inr ⟨ii, hii, rfl, c10, Int32.not_lt.mpr c15, by rw [if_neg c32, if_neg c46], rfl⟩, rfl⟩
            · refine ev_aload_0 49 d_mo_state_49 ?_
              refine mo_getr 50 10 14 d_mo_state_50 lk_40 ?_
              refine ev_iload_1 53 d_mo_state_53 ?_
              refine mo_aldn (j := ii) 54 10 14 d_mo_state_54 (by show ii < 6; omega) ?_
              refine ev_goto 55 63 d_mo_state_55 ?_
              refine ev_iret 63 d_mo_state_63 rfl ?_
              exact ⟨_, _, _, rfl, rfl, Or.inr ⟨ii, hii, rfl, c10, Int32.not_lt.mpr c15, by rw [if_neg c32, if_pos c46], rfl⟩, rfl⟩
          · refine ev_aload_0 35 d_mo_state_35 ?_
            refine mo_getr 36 11 15 d_mo_state_36 lk_43 ?_
            refine ev_iload_1 39 d_mo_state_39 ?_
            refine mo_aldn (j := ii) 40 11 15 d_mo_state_40 (by show ii < 6; omega) ?_
            refine ev_goto 41 63 d_mo_state_41 ?_
            refine ev_iret 63 d_mo_state_63 rfl ?_
            exact ⟨_, _, _, rfl, rfl, Or.inr ⟨ii, hii, rfl, c10, Int32.not_lt.mpr c15, by rw [if_pos c32], rfl⟩, rfl⟩
        · exact absurd (mo_r0 hx) c26
      · refine ev_iconst_1 18 d_mo_state_18 ?_
        refine ev_goto 19 23 d_mo_state_19 ?_
        refine mo_calli1 23 d_mo_state_23 hZ kc_157 (mt_refuses hZ _) (fun x F1 B1 h => ?_)
        obtain ⟨hx, e1, e2⟩ := h
        subst F1
        subst B1
        refine ev_ifeq 26 31 d_mo_state_26 (fun c26 => ?_) (fun c26 => ?_)
        · exact absurd c26 (mo_rk hx (by decide))
        · refine ev_iconst_0 29 d_mo_state_29 ?_
          refine ev_iret 30 d_mo_state_30 rfl ?_
          exact ⟨_, _, _, rfl, rfl, Or.inl ⟨Or.inr (Or.inr (Int32.not_le.mp c15)), rfl, rfl⟩, rfl⟩

/-- how many of the first n resources are of the kind k, and gone or not -/
def mo_rs (B : Nat → Nat → Int32) (k g : Int32) : Nat → Nat
  | 0 => 0
  | n + 1 => if B 23 n = k ∧ B 24 n = g then mo_rs B k g n + 1 else mo_rs B k g n

set_option maxHeartbeats 4000000 in
set_option maxRecDepth 100000 in
theorem mt_resources {l : Launch} {D : va_G} {tl : List (ClassId × FieldType)} {Z : (Nat → Prop) → State → Heap → Prop} {kI kZ : ClassId} {am : Nat → Nat} {F : Nat → Int32} {B : Nat → Nat → Int32} (hZ : ev_Zok Z) (k : Int32) (g : Int32) (Md : Nat) (hM : F 22 = nI Md) (hM2 : Md ≤ 1024) : MT (mo_π l D cl_A kI kZ tl Z) m_resources 0 0 [.ref (am 60), .int k, .int g] (mo_W mo_ci am kI kZ F B) (mo_qi am kI kZ (fun x F1 B1 => (((k < 0 ∨ 3 < k) ∧ x = 0 ∧ F1 = upd F 0 1) ∨ (¬ k < 0 ∧ ¬ 3 < k ∧ x = nI (mo_rs B k g Md) ∧ F1 = upd F 0 0)) ∧ B1 = B)) := by
  refine mt_of mo_pl rfl (Nat.le_of_ble_eq_true rfl) (ev_eq (lv' := [some (.ref (am 60)), some (.int k), some (.int g), none, none]) ?_)
  have L28 : ¬ k < 0 → k ≤ 3 → ∀ m n : Nat, Md - n < m → n ≤ Md → EV (mo_π l D cl_A kI kZ tl Z) m_resources (ev_E (mo_π l D cl_A kI kZ tl Z) 0 0 (mo_qi am kI kZ (fun x F1 B1 => (((k < 0 ∨ 3 < k) ∧ x = 0 ∧ F1 = upd F 0 1) ∨ (¬ k < 0 ∧ ¬ 3 < k ∧ x = nI (mo_rs B k g Md) ∧ F1 = upd F 0 0)) ∧ B1 = B))) 0 0 28 [some (.ref (am 60)), some (.int k), some (.int g), some (.int (nI (mo_rs B k g n))), some (.int (nI n))] [] (mo_W mo_ci am kI kZ (upd F 0 0) B) := by
    intro c2 c7 m
    induction m with
    | zero => intro n h; omega
    | succ m ih =>
      intro n hm hn
      refine ev_iload_4 28 d_mo_resources_28 ?_
      refine ev_aload_0 30 d_mo_resources_30 ?_
      refine mo_geti 31 22 d_mo_resources_31 lk_218 ?_
      refine ev_icmpge 34 73 d_mo_resources_34 (fun c34 => ?_) (fun c34 => ?_)
      · have h34 := n_le Md n c34 hM
        obtain rfl : n = Md := by omega
        refine ev_iload_3 73 d_mo_resources_73 ?_
        refine ev_iret 74 d_mo_resources_74 rfl ?_
        exact ⟨_, _, _, rfl, rfl, Or.inr ⟨c2, Int32.not_lt.mpr c7, rfl, rfl⟩, rfl⟩
      · have h34 := n_nle Md n c34 hM
        refine ev_aload_0 37 d_mo_resources_37 ?_
        refine mo_getr 38 18 23 d_mo_resources_38 lk_65 ?_
        refine ev_iload_4 41 d_mo_resources_41 ?_
        refine mo_aldn (j := n) 43 18 23 d_mo_resources_43 (by show n < 1024; omega) ?_
        refine ev_iload_1 44 d_mo_resources_44 ?_
        refine ev_icmpne 45 65 d_mo_resources_45 (fun c45 => ?_) (fun c45 => ?_)
        · refine ev_iload_3 65 d_mo_resources_65 ?_
          refine ev_istore_3 66 d_mo_resources_66 ?_
          refine ev_iinc_4 67 d_mo_resources_67 ?_
          refine ev_goto 70 28 d_mo_resources_70 ?_
          exact ev_eq (ih (n + 1) (by omega) (by omega)) (h1 := by rw [n_i1, mo_rs, if_neg (fun z => c45 z.1)])
        · refine ev_aload_0 48 d_mo_resources_48 ?_
          refine mo_getr 49 19 24 d_mo_resources_49 lk_68 ?_
          refine ev_iload_4 52 d_mo_resources_52 ?_
          refine mo_zldn (j := n) 54 19 24 d_mo_resources_54 (by show n < 1024; omega) ?_
          refine ev_iload_2 55 d_mo_resources_55 ?_
          refine ev_icmpne 56 65 d_mo_resources_56 (fun c56 => ?_) (fun c56 => ?_)
          · refine ev_iload_3 65 d_mo_resources_65 ?_
            refine ev_istore_3 66 d_mo_resources_66 ?_
            refine ev_iinc_4 67 d_mo_resources_67 ?_
            refine ev_goto 70 28 d_mo_resources_70 ?_
            exact ev_eq (ih (n + 1) (by omega) (by omega)) (h1 := by rw [n_i1, mo_rs, if_neg (fun z => c56 z.2)])
          · refine ev_iload_3 59 d_mo_resources_59 ?_
            refine ev_iconst_1 60 d_mo_resources_60 ?_
            refine ev_iadd 61 d_mo_resources_61 ?_
            refine ev_goto 62 66 d_mo_resources_62 ?_
            refine ev_istore_3 66 d_mo_resources_66 ?_
            refine ev_iinc_4 67 d_mo_resources_67 ?_
            refine ev_goto 70 28 d_mo_resources_70 ?_
            exact ev_eq (ih (n + 1) (by omega) (by omega)) (h1 := by rw [n_i1, mo_rs, if_pos ⟨c45, c56⟩, nI_1])
  refine ev_aload_0 0 d_mo_resources_0 ?_
  refine ev_iload_1 1 d_mo_resources_1 ?_
  refine ev_iflt 2 10 d_mo_resources_2 (fun c2 => ?_) (fun c2 => ?_)
  · refine ev_iconst_1 10 d_mo_resources_10 ?_
    refine ev_goto 11 15 d_mo_resources_11 ?_
    refine mo_calli1 15 d_mo_resources_15 hZ kc_157 (mt_refuses hZ _) (fun x F1 B1 h => ?_)
    obtain ⟨hx, e1, e2⟩ := h
    subst F1
    subst B1
    refine ev_ifeq 18 23 d_mo_resources_18 (fun c18 => ?_) (fun c18 => ?_)
    · exact absurd c18 (mo_rk hx (by decide))
    · refine ev_iconst_0 21 d_mo_resources_21 ?_
      refine ev_iret 22 d_mo_resources_22 rfl ?_
      exact ⟨_, _, _, rfl, rfl, Or.inl ⟨Or.inl c2, rfl, rfl⟩, rfl⟩
  · refine ev_iload_1 5 d_mo_resources_5 ?_
    refine ev_iconst_3 6 d_mo_resources_6 ?_
    refine ev_icmple 7 14 d_mo_resources_7 (fun c7 => ?_) (fun c7 => ?_)
    · refine ev_iconst_0 14 d_mo_resources_14 ?_
      refine mo_calli1 15 d_mo_resources_15 hZ kc_157 (mt_refuses hZ _) (fun x F1 B1 h => ?_)
      obtain ⟨hx, e1, e2⟩ := h
      subst F1
      subst B1
      refine ev_ifeq 18 23 d_mo_resources_18 (fun c18 => ?_) (fun c18 => ?_)
      · refine ev_iconst_0 23 d_mo_resources_23 ?_
        refine ev_istore_3 24 d_mo_resources_24 ?_
        refine ev_iconst_0 25 d_mo_resources_25 ?_
        refine ev_istore_4 26 d_mo_resources_26 ?_
        exact L28 c2 c7 (Md + 1) 0 (by omega) (by omega)
      · exact absurd (mo_r0 hx) c18
    · refine ev_iconst_1 10 d_mo_resources_10 ?_
      refine ev_goto 11 15 d_mo_resources_11 ?_
      refine mo_calli1 15 d_mo_resources_15 hZ kc_157 (mt_refuses hZ _) (fun x F1 B1 h => ?_)
      obtain ⟨hx, e1, e2⟩ := h
      subst F1
      subst B1
      refine ev_ifeq 18 23 d_mo_resources_18 (fun c18 => ?_) (fun c18 => ?_)
      · exact absurd c18 (mo_rk hx (by decide))
      · refine ev_iconst_0 21 d_mo_resources_21 ?_
        refine ev_iret 22 d_mo_resources_22 rfl ?_
        exact ⟨_, _, _, rfl, rfl, Or.inl ⟨Or.inr (Int32.not_le.mp c7), rfl, rfl⟩, rfl⟩

/-- what closing does to the first n handles: in use, gone, how many were destroyed -/
def mo_cl (B : Nat → Nat → Int32) (b : Nat) : Nat → (Nat → Int32) × (Nat → Int32) × Nat
  | 0 => (B 16, B 24, 0)
  | n + 1 => if ¬ (mo_cl B b n).1 (b + (n + 1)) = 0 ∧ ¬ B 18 (b + (n + 1)) = 0 then (upd (mo_cl B b n).1 (b + (n + 1)) 0, upd (mo_cl B b n).2.1 (B 17 (b + (n + 1))).toNatClampNeg 1, (mo_cl B b n).2.2 + 1) else (upd (mo_cl B b n).1 (b + (n + 1)) 0, (mo_cl B b n).2.1, (mo_cl B b n).2.2)
theorem mo_u4 (B : Nat → Nat → Int32) (a c : Nat) (f g f' g' : Nat → Int32) (h : a ≠ c) : va_up (va_up (va_up (va_up B a f) c g) a f') c g' = va_up (va_up B a f') c g' := by
  funext k
  by_cases e : k = c
  · subst e; simp [va_up]
  · by_cases e2 : k = a
    · subst e2; simp [va_up, e]
    · simp [va_up, e, e2]

set_option maxHeartbeats 4000000 in
set_option maxRecDepth 100000 in
theorem mt_close {l : Launch} {D : va_G} {tl : List (ClassId × FieldType)} {Z : (Nat → Prop) → State → Heap → Prop} {kI kZ : ClassId} {am : Nat → Nat} {F : Nat → Int32} {B : Nat → Nat → Int32} (hZ : ev_Zok Z) (i : Int32) (NI : Nat) (hNI : F 12 = nI NI) (hN6 : NI ≤ 6) (hG : ∀ y, y < 102 → ¬ B 16 y = 0 → ¬ B 18 y = 0 → vp_in (B 17 y) 1024) (hU : ∀ ii n, (mo_cl B (17 * ii) n).1 (17 * ii + (n + 1)) = B 16 (17 * ii + (n + 1))) : MT (mo_π l D cl_A kI kZ tl Z) m_close 0 0 [.ref (am 60), .int i] (mo_W mo_ci am kI kZ F B) (mo_qi am kI kZ (fun x F1 B1 => (¬ (¬ i < 0 ∧ ¬ F 12 ≤ i) ∧ x = 0 ∧ F1 = upd F 0 1 ∧ B1 = B) ∨ (∃ ii, ii < NI ∧ i = nI ii ∧ (B 15 ii = 1 ∨ B 15 ii = 3) ∧ x = 0 ∧ F1 = upd F 0 2 ∧ B1 = B) ∨ (∃ ii, ii < NI ∧ i = nI ii ∧ ¬ B 15 ii = 1 ∧ ¬ B 15 ii = 3 ∧ x = nI (mo_cl B (17 * ii) 16).2.2 ∧ F1 = upd F 0 0 ∧ B1 = va_up (va_up (va_up B 24 (mo_cl B (17 * ii) 16).2.1) 16 (mo_cl B (17 * ii) 16).1) 15 (upd (B 15) ii 3)))) := by
  refine mt_of mo_pl rfl (Nat.le_of_ble_eq_true rfl) (ev_eq (lv' := [some (.ref (am 60)), some (.int i), none, none, none]) ?_)
  have L50 : ∀ ii : Nat, ii < NI → i = nI ii → ¬ B 15 ii = 1 → ¬ B 15 ii = 3 → ∀ m n : Nat, 16 - n < m → n ≤ 16 → ∀ o4 : Option Value, EV (mo_π l D cl_A kI kZ tl Z) m_close (ev_E (mo_π l D cl_A kI kZ tl Z) 0 0 (mo_qi am kI kZ (fun x F1 B1 => (¬ (¬ i < 0 ∧ ¬ F 12 ≤ i) ∧ x = 0 ∧ F1 = upd F 0 1 ∧ B1 = B) ∨ (∃ ii, ii < NI ∧ i = nI ii ∧ (B 15 ii = 1 ∨ B 15 ii = 3) ∧ x = 0 ∧ F1 = upd F 0 2 ∧ B1 = B) ∨ (∃ ii, ii < NI ∧ i = nI ii ∧ ¬ B 15 ii = 1 ∧ ¬ B 15 ii = 3 ∧ x = nI (mo_cl B (17 * ii) 16).2.2 ∧ F1 = upd F 0 0 ∧ B1 = va_up (va_up (va_up B 24 (mo_cl B (17 * ii) 16).2.1) 16 (mo_cl B (17 * ii) 16).1) 15 (upd (B 15) ii 3))))) 0 0 50 [some (.ref (am 60)), some (.int (nI ii)), some (.int (nI (mo_cl B (17 * ii) n).2.2)), some (.int (nI (n + 1))), o4] [] (mo_W mo_ci am kI kZ (upd F 0 0) (va_up (va_up B 24 (mo_cl B (17 * ii) n).2.1) 16 (mo_cl B (17 * ii) n).1)) := by
    intro ii hii hi0 q1 q2 m
    subst hi0
    induction m with
    | zero => intro n h; omega
    | succ m ih =>
      intro n hm hn o4
      refine ev_iload_3 50 d_mo_close_50 ?_
      refine ev_bipush (16) 51 d_mo_close_51 (by decide) ?_
      refine ev_icmpgt 53 114 d_mo_close_53 (fun c53 => ?_) (fun c53 => ?_)
      · have h53 := n_lt 16 (n + 1) c53
        obtain rfl : n = 16 := by omega
        refine ev_aload_0 114 d_mo_close_114 ?_
        refine mo_getr 115 11 15 d_mo_close_115 lk_43 ?_
        refine ev_iload_1 118 d_mo_close_118 ?_
        refine ev_iconst_3 119 d_mo_close_119 ?_
        refine mo_astn (j := ii) 120 11 15 d_mo_close_120 (by show ii < 6; omega) ?_
        refine ev_iload_2 121 d_mo_close_121 ?_
        refine ev_iret 122 d_mo_close_122 rfl ?_
        exact ⟨_, _, _, rfl, rfl, Or.inr (Or.inr ⟨ii, hii, rfl, q1, q2, rfl, rfl, rfl⟩)⟩
      · have h53 := n_nlt 16 (n + 1) c53
        refine ev_bipush (17) 56 d_mo_close_56 (by decide) ?_
        refine ev_iload_1 58 d_mo_close_58 ?_
        refine ev_imul 59 d_mo_close_59 ?_
        refine ev_iload_3 60 d_mo_close_60 ?_
        refine ev_iadd 61 d_mo_close_61 ?_
        refine ev_topi (nI (17 * ii + (n + 1))) (by rw [n_17, pk_mul, nI_add]) ?_
        refine ev_istore_4 62 d_mo_close_62 ?_
        refine ev_aload_0 64 d_mo_close_64 ?_
        refine mo_getr 65 12 16 d_mo_close_65 lk_46 ?_
        refine ev_iload_4 68 d_mo_close_68 ?_
        refine mo_zldn (j := 17 * ii + (n + 1)) 70 12 16 d_mo_close_70 (by show 17 * ii + (n + 1) < 102; omega) ?_
        refine ev_ifeq 71 100 d_mo_close_71 (fun c71 => ?_) (fun c71 => ?_)
        · refine ev_aload_0 100 d_mo_close_100 ?_
          refine mo_getr 101 12 16 d_mo_close_101 lk_46 ?_
          refine ev_iload_4 104 d_mo_close_104 ?_
          refine ev_iconst_0 106 d_mo_close_106 ?_
          refine mo_zstn (j := 17 * ii + (n + 1)) 107 12 16 d_mo_close_107 (by show 17 * ii + (n + 1) < 102; omega) (by exact Or.inl rfl) ?_
          refine ev_iinc_3 108 d_mo_close_108 ?_
          refine ev_goto 111 50 d_mo_close_111 ?_
          exact ev_eq (ih (n + 1) (by omega) (by omega) _) (h1 := by rw [n_i1, mo_cl, if_neg (fun z => z.1 c71)]) (h3 := by rw [mo_cl, if_neg (fun z => z.1 c71)]; exact congrArg (mo_W mo_ci am kI kZ (upd F 0 0)) (bx_uu _ 16 _ _))
        · refine ev_aload_0 74 d_mo_close_74 ?_
          refine mo_getr 75 14 18 d_mo_close_75 lk_53 ?_
          refine ev_iload_4 78 d_mo_close_78 ?_
          refine mo_zldn (j := 17 * ii + (n + 1)) 80 14 18 d_mo_close_80 (by show 17 * ii + (n + 1) < 102; omega) ?_
          refine ev_ifeq 81 100 d_mo_close_81 (fun c81 => ?_) (fun c81 => ?_)
          · refine ev_aload_0 100 d_mo_close_100 ?_
            refine mo_getr 101 12 16 d_mo_close_101 lk_46 ?_
            refine ev_iload_4 104 d_mo_close_104 ?_
            refine ev_iconst_0 106 d_mo_close_106 ?_
            refine mo_zstn (j := 17 * ii + (n + 1)) 107 12 16 d_mo_close_107 (by show 17 * ii + (n + 1) < 102; omega) (by exact Or.inl rfl) ?_
            refine ev_iinc_3 108 d_mo_close_108 ?_
            refine ev_goto 111 50 d_mo_close_111 ?_
            exact ev_eq (ih (n + 1) (by omega) (by omega) _) (h1 := by rw [n_i1, mo_cl, if_neg (fun z => z.2 c81)]) (h3 := by rw [mo_cl, if_neg (fun z => z.2 c81)]; exact congrArg (mo_W mo_ci am kI kZ (upd F 0 0)) (bx_uu _ 16 _ _))
          · refine ev_aload_0 84 d_mo_close_84 ?_
            refine mo_getr 85 19 24 d_mo_close_85 lk_68 ?_
            refine ev_aload_0 88 d_mo_close_88 ?_
            refine mo_getr 89 13 17 d_mo_close_89 lk_50 ?_
            refine ev_iload_4 92 d_mo_close_92 ?_
            refine mo_aldn (j := 17 * ii + (n + 1)) 94 13 17 d_mo_close_94 (by show 17 * ii + (n + 1) < 102; omega) ?_
            refine ev_iconst_1 95 d_mo_close_95 ?_
            refine mo_zst 96 19 24 d_mo_close_96 (by exact hG (17 * ii + (n + 1)) (by omega) (fun z => c71 ((hU ii n).trans z)) c81) ?_
            refine ev_iinc_2 97 d_mo_close_97 ?_
            refine ev_aload_0 100 d_mo_close_100 ?_
            refine mo_getr 101 12 16 d_mo_close_101 lk_46 ?_
            refine ev_iload_4 104 d_mo_close_104 ?_
            refine ev_iconst_0 106 d_mo_close_106 ?_
            refine mo_zstn (j := 17 * ii + (n + 1)) 107 12 16 d_mo_close_107 (by show 17 * ii + (n + 1) < 102; omega) (by exact Or.inl rfl) ?_
            refine ev_iinc_3 108 d_mo_close_108 ?_
            refine ev_goto 111 50 d_mo_close_111 ?_
            exact ev_eq (ih (n + 1) (by omega) (by omega) _) (h1 := by rw [n_i1, n_i1, mo_cl, if_pos ⟨c71, c81⟩]) (h3 := by rw [mo_cl, if_pos ⟨c71, c81⟩]; exact congrArg (mo_W mo_ci am kI kZ (upd F 0 0)) (mo_u4 B 24 16 _ _ _ _ (by decide)))
  refine ev_aload_0 0 d_mo_close_0 ?_
  refine ev_aload_0 1 d_mo_close_1 ?_
  refine ev_iload_1 2 d_mo_close_2 ?_
  refine mo_calli1 3 d_mo_close_3 hZ kc_197 (mt_isInstance hZ _) (fun y F1 B1 h => ?_)
  obtain ⟨hy, e1, e2⟩ := h
  subst F1
  subst B1
  refine ev_ifne 6 13 d_mo_close_6 (fun c6 => ?_) (fun c6 => ?_)
  · obtain ⟨ii, hii, rfl⟩ := n_ins hNI hN6 (mo_b1 hy c6)
    refine ev_aload_0 13 d_mo_close_13 ?_
    refine mo_getr 14 11 15 d_mo_close_14 lk_43 ?_
    refine ev_iload_1 17 d_mo_close_17 ?_
    refine mo_aldn (j := ii) 18 11 15 d_mo_close_18 (by show ii < 6; omega) ?_
    refine ev_iconst_1 19 d_mo_close_19 ?_
    refine ev_icmpeq 20 33 d_mo_close_20 (fun c20 => ?_) (fun c20 => ?_)
    · refine ev_iconst_2 33 d_mo_close_33 ?_
      refine ev_goto 34 38 d_mo_close_34 ?_
      refine mo_calli1 38 d_mo_close_38 hZ kc_157 (mt_refuses hZ _) (fun x F1 B1 h => ?_)
      obtain ⟨hx, e1, e2⟩ := h
      subst F1
      subst B1
      refine ev_ifeq 41 46 d_mo_close_41 (fun c41 => ?_) (fun c41 => ?_)
      · exact absurd c41 (mo_rk hx (by decide))
      · refine ev_iconst_0 44 d_mo_close_44 ?_
        refine ev_iret 45 d_mo_close_45 rfl ?_
        exact ⟨_, _, _, rfl, rfl, Or.inr (Or.inl ⟨ii, hii, rfl, Or.inl c20, rfl, rfl, rfl⟩)⟩
    · refine ev_aload_0 23 d_mo_close_23 ?_
      refine mo_getr 24 11 15 d_mo_close_24 lk_43 ?_
      refine ev_iload_1 27 d_mo_close_27 ?_
      refine mo_aldn (j := ii) 28 11 15 d_mo_close_28 (by show ii < 6; omega) ?_
      refine ev_iconst_3 29 d_mo_close_29 ?_
      refine ev_icmpne 30 37 d_mo_close_30 (fun c30 => ?_) (fun c30 => ?_)
      · refine ev_iconst_0 37 d_mo_close_37 ?_
        refine mo_calli1 38 d_mo_close_38 hZ kc_157 (mt_refuses hZ _) (fun x F1 B1 h => ?_)
        obtain ⟨hx, e1, e2⟩ := h
        subst F1
        subst B1
        refine ev_ifeq 41 46 d_mo_close_41 (fun c41 => ?_) (fun c41 => ?_)
        · refine ev_iconst_0 46 d_mo_close_46 ?_
          refine ev_istore_2 47 d_mo_close_47 ?_
          refine ev_iconst_1 48 d_mo_close_48 ?_
          refine ev_istore_3 49 d_mo_close_49 ?_
          exact L50 ii hii rfl c20 c30 17 0 (by omega) (by omega) _
        · exact absurd (mo_r0 hx) c41
      · refine ev_iconst_2 33 d_mo_close_33 ?_
        refine ev_goto 34 38 d_mo_close_34 ?_
        refine mo_calli1 38 d_mo_close_38 hZ kc_157 (mt_refuses hZ _) (fun x F1 B1 h => ?_)
        obtain ⟨hx, e1, e2⟩ := h
        subst F1
        subst B1
        refine ev_ifeq 41 46 d_mo_close_41 (fun c41 => ?_) (fun c41 => ?_)
        · exact absurd c41 (mo_rk hx (by decide))
        · refine ev_iconst_0 44 d_mo_close_44 ?_
          refine ev_iret 45 d_mo_close_45 rfl ?_
          exact ⟨_, _, _, rfl, rfl, Or.inr (Or.inl ⟨ii, hii, rfl, Or.inr c30, rfl, rfl, rfl⟩)⟩
  · refine ev_iconst_1 9 d_mo_close_9 ?_
    refine ev_goto 10 38 d_mo_close_10 ?_
    refine mo_calli1 38 d_mo_close_38 hZ kc_157 (mt_refuses hZ _) (fun x F1 B1 h => ?_)
    obtain ⟨hx, e1, e2⟩ := h
    subst F1
    subst B1
    refine ev_ifeq 41 46 d_mo_close_41 (fun c41 => ?_) (fun c41 => ?_)
    · exact absurd c41 (mo_rk hx (by decide))
    · refine ev_iconst_0 44 d_mo_close_44 ?_
      refine ev_iret 45 d_mo_close_45 rfl ?_
      exact ⟨_, _, _, rfl, rfl, Or.inl ⟨mo_b0 hy c6, rfl, rfl, rfl⟩⟩
