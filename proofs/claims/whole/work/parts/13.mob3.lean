theorem n_s1 {a : Nat} (h : 0 < a) : nI a - 1 = nI (a - 1) := by
  obtain ⟨b, rfl⟩ : ∃ b, a = b + 1 := ⟨a - 1, by omega⟩
  exact nI_pred b
theorem n_rng {x : Int32} (h1 : ¬ x < 1) (h2 : ¬ (16 : Int32) < x) : ∃ j : Nat, 1 ≤ j ∧ j ≤ 16 ∧ x = nI j := by
  obtain ⟨j, hj, rfl⟩ := nI_of2 (M := 16) (n := 16) rfl (fun z => h1 (Int32.lt_of_lt_of_le z (by decide))) (Int32.not_lt.mp h2)
  exact ⟨j, n_nlt j 1 h1, hj, rfl⟩
theorem mo_fh_le (u : Nat → Int32) (b n : Nat) : mo_fh u b n ≤ 16 := by
  induction n with
  | zero => exact Nat.zero_le _
  | succ n ih =>
    rw [mo_fh]
    split
    · exact Nat.sub_le _ _
    · exact ih
theorem n_z {a : Nat} (h : a < 2147483648) : nI a = 0 ↔ a = 0 := ⟨fun z => n_eq a 0 z, fun z => by rw [z]; rfl⟩
/-- an instance's number -/
theorem n_ins {x : Int32} {N : Nat} {y : Int32} (hy : y = nI N) (hN : N ≤ 6) (h : ¬ x < 0 ∧ ¬ y ≤ x) : ∃ j : Nat, j < N ∧ x = nI j := by
  obtain ⟨j, hj, rfl⟩ := nI_of h.1
  exact ⟨j, n_nle N j h.2 hy rfl, rfl⟩

set_option maxHeartbeats 4000000 in
set_option maxRecDepth 100000 in
theorem mt_make {l : Launch} {D : va_G} {tl : List (ClassId × FieldType)} {Z : (Nat → Prop) → State → Heap → Prop} {kI kZ : ClassId} {am : Nat → Nat} {F : Nat → Int32} {B : Nat → Nat → Int32} (hZ : ev_Zok Z) (k : Int32) (Lv : Nat) (hLv : F 29 = nI Lv) (hL6 : Lv ≤ 6) (R : Nat) (hR : 0 < Lv → B 30 (Lv - 1) = nI R ∧ R < 6) (Md : Nat) (hM : F 22 = nI Md) (hM2 : Md < 1024) : MT (mo_π l D cl_A kI kZ tl Z) m_make 0 0 [.ref (am 60), .int k] (mo_W mo_ci am kI kZ F B) (mo_qi am kI kZ (fun x F1 B1 => (F 29 = 0 ∧ x = 0 ∧ F1 = upd F 0 1 ∧ B1 = B) ∨ (¬ F 29 = 0 ∧ (k < 0 ∨ 3 < k) ∧ x = 0 ∧ F1 = upd F 0 2 ∧ B1 = B) ∨ (¬ F 29 = 0 ∧ ¬ k < 0 ∧ ¬ 3 < k ∧ mo_fh (B 16) (17 * R) 16 = 0 ∧ x = 0 ∧ F1 = upd F 0 3 ∧ B1 = B) ∨ (¬ F 29 = 0 ∧ ¬ k < 0 ∧ ¬ 3 < k ∧ mo_fh (B 16) (17 * R) 16 ≠ 0 ∧ x = nI (mo_fh (B 16) (17 * R) 16) ∧ F1 = upd (upd F 0 0) 22 (F 22 + 1) ∧ B1 = va_up (va_up (va_up (va_up B 16 (upd (B 16) (17 * R + mo_fh (B 16) (17 * R) 16) 1)) 18 (upd (B 18) (17 * R + mo_fh (B 16) (17 * R) 16) 1)) 17 (upd (B 17) (17 * R + mo_fh (B 16) (17 * R) 16) (F 22))) 23 (upd (B 23) Md k)))) := by
  refine mt_of mo_pl rfl (Nat.le_of_ble_eq_true rfl) (ev_eq (lv' := [some (.ref (am 60)), some (.int k), none, none]) ?_)
  refine ev_aload_0 0 d_mo_make_0 ?_
  refine ev_aload_0 1 d_mo_make_1 ?_
  refine mo_geti 2 29 d_mo_make_2 lk_208 ?_
  refine ev_ifne 5 12 d_mo_make_5 (fun c5 => ?_) (fun c5 => ?_)
  · have hp : 0 < Lv := Nat.pos_of_ne_zero (fun z => c5 (by rw [hLv, z]; rfl))
    refine ev_iload_1 12 d_mo_make_12 ?_
    refine ev_iflt 13 21 d_mo_make_13 (fun c13 => ?_) (fun c13 => ?_)
    · refine ev_iconst_2 21 d_mo_make_21 ?_
      refine ev_goto 22 48 d_mo_make_22 ?_
      refine mo_calli1 48 d_mo_make_48 hZ kc_157 (mt_refuses hZ _) (fun x F1 B1 h => ?_)
      obtain ⟨hx, e1, e2⟩ := h
      subst F1
      subst B1
      refine ev_ifeq 51 56 d_mo_make_51 (fun c51 => ?_) (fun c51 => ?_)
      · exact absurd c51 (mo_rk hx (by decide))
      · refine ev_iconst_0 54 d_mo_make_54 ?_
        refine ev_iret 55 d_mo_make_55 rfl ?_
        exact ⟨_, _, _, rfl, rfl, Or.inr (Or.inl ⟨c5, Or.inl c13, rfl, rfl, rfl⟩)⟩
    · refine ev_iload_1 16 d_mo_make_16 ?_
      refine ev_iconst_3 17 d_mo_make_17 ?_
      refine ev_icmple 18 25 d_mo_make_18 (fun c18 => ?_) (fun c18 => ?_)
      · refine ev_aload_0 25 d_mo_make_25 ?_
        refine ev_aload_0 26 d_mo_make_26 ?_
        refine mo_getr 27 23 30 d_mo_make_27 lk_80 ?_
        refine ev_aload_0 30 d_mo_make_30 ?_
        refine mo_geti 31 29 d_mo_make_31 lk_208 ?_
        refine ev_iconst_1 34 d_mo_make_34 ?_
        refine ev_isub 35 d_mo_make_35 ?_
        refine ev_topi (nI (Lv - 1)) (by show F 29 - 1 = nI (Lv - 1); rw [hLv]; exact n_s1 hp) ?_
        refine mo_aldn (j := Lv - 1) 36 23 30 d_mo_make_36 (by show Lv - 1 < 6; omega) ?_
        refine ev_topi (nI R) (hR hp).1 ?_
        refine mo_calli1 37 d_mo_make_37 hZ kc_215 (mt_freeHandle hZ R (hR hp).2) (fun y F1 B1 h => ?_)
        obtain ⟨rfl, e1, e2⟩ := h
        subst F1
        subst B1
        refine ev_ifne 40 47 d_mo_make_40 (fun c40 => ?_) (fun c40 => ?_)
        · refine ev_iconst_0 47 d_mo_make_47 ?_
          refine mo_calli1 48 d_mo_make_48 hZ kc_157 (mt_refuses hZ _) (fun x F1 B1 h => ?_)
          obtain ⟨hx, e1, e2⟩ := h
          subst F1
          subst B1
          refine ev_ifeq 51 56 d_mo_make_51 (fun c51 => ?_) (fun c51 => ?_)
          · refine ev_aload_0 56 d_mo_make_56 ?_
            refine ev_aload_0 57 d_mo_make_57 ?_
            refine mo_getr 58 23 30 d_mo_make_58 lk_80 ?_
            refine ev_aload_0 61 d_mo_make_61 ?_
            refine mo_geti 62 29 d_mo_make_62 lk_208 ?_
            refine ev_iconst_1 65 d_mo_make_65 ?_
            refine ev_isub 66 d_mo_make_66 ?_
            refine ev_topi (nI (Lv - 1)) (by show F 29 - 1 = nI (Lv - 1); rw [hLv]; exact n_s1 hp) ?_
            refine mo_aldn (j := Lv - 1) 67 23 30 d_mo_make_67 (by show Lv - 1 < 6; omega) ?_
            refine ev_topi (nI R) (hR hp).1 ?_
            refine mo_calli1 68 d_mo_make_68 hZ kc_215 (mt_freeHandle hZ R (hR hp).2) (fun y F1 B1 h => ?_)
            obtain ⟨rfl, e1, e2⟩ := h
            subst F1
            subst B1
            refine ev_istore_2 71 d_mo_make_71 ?_
            refine ev_bipush (17) 72 d_mo_make_72 (by decide) ?_
            refine ev_aload_0 74 d_mo_make_74 ?_
            refine mo_getr 75 23 30 d_mo_make_75 lk_80 ?_
            refine ev_aload_0 78 d_mo_make_78 ?_
            refine mo_geti 79 29 d_mo_make_79 lk_208 ?_
            refine ev_iconst_1 82 d_mo_make_82 ?_
            refine ev_isub 83 d_mo_make_83 ?_
            refine ev_topi (nI (Lv - 1)) (by show F 29 - 1 = nI (Lv - 1); rw [hLv]; exact n_s1 hp) ?_
            refine mo_aldn (j := Lv - 1) 84 23 30 d_mo_make_84 (by show Lv - 1 < 6; omega) ?_
            refine ev_topi (nI R) (hR hp).1 ?_
            refine ev_imul 85 d_mo_make_85 ?_
            refine ev_iload_2 86 d_mo_make_86 ?_
            refine ev_iadd 87 d_mo_make_87 ?_
            refine ev_topi (nI (17 * R + mo_fh (B 16) (17 * R) 16)) (by rw [n_17, pk_mul, nI_add]) ?_
            refine ev_istore_3 88 d_mo_make_88 ?_
            refine ev_aload_0 89 d_mo_make_89 ?_
            refine mo_getr 90 12 16 d_mo_make_90 lk_46 ?_
            refine ev_iload_3 93 d_mo_make_93 ?_
            refine ev_iconst_1 94 d_mo_make_94 ?_
            refine mo_zstn (j := 17 * R + mo_fh (B 16) (17 * R) 16) 95 12 16 d_mo_make_95 (by have := mo_fh_le (B 16) (17 * R) 16; have := (hR hp).2; show 17 * R + mo_fh (B 16) (17 * R) 16 < 102; omega) (by exact Or.inr rfl) ?_
            refine ev_aload_0 96 d_mo_make_96 ?_
            refine mo_getr 97 14 18 d_mo_make_97 lk_53 ?_
            refine ev_iload_3 100 d_mo_make_100 ?_
            refine ev_iconst_1 101 d_mo_make_101 ?_
            refine mo_zstn (j := 17 * R + mo_fh (B 16) (17 * R) 16) 102 14 18 d_mo_make_102 (by have := mo_fh_le (B 16) (17 * R) 16; have := (hR hp).2; show 17 * R + mo_fh (B 16) (17 * R) 16 < 102; omega) (by exact Or.inr rfl) ?_
            refine ev_aload_0 103 d_mo_make_103 ?_
            refine mo_getr 104 13 17 d_mo_make_104 lk_50 ?_
            refine ev_iload_3 107 d_mo_make_107 ?_
            refine ev_aload_0 108 d_mo_make_108 ?_
            refine mo_geti 109 22 d_mo_make_109 lk_218 ?_
            refine mo_astn (j := 17 * R + mo_fh (B 16) (17 * R) 16) 112 13 17 d_mo_make_112 (by have := mo_fh_le (B 16) (17 * R) 16; have := (hR hp).2; show 17 * R + mo_fh (B 16) (17 * R) 16 < 102; omega) ?_
            refine ev_aload_0 113 d_mo_make_113 ?_
            refine mo_getr 114 18 23 d_mo_make_114 lk_65 ?_
            refine ev_aload_0 117 d_mo_make_117 ?_
            refine mo_geti 118 22 d_mo_make_118 lk_218 ?_
            refine ev_iload_1 121 d_mo_make_121 ?_
            refine ev_sndi (nI (Md)) (by exact hM) ?_
            refine mo_astn (j := Md) 122 18 23 d_mo_make_122 (by exact hM2) ?_
            refine ev_aload_0 123 d_mo_make_123 ?_
            refine ev_dup_a 124 d_mo_make_124 ?_
            refine mo_geti 125 22 d_mo_make_125 lk_218 ?_
            refine ev_iconst_1 128 d_mo_make_128 ?_
            refine ev_iadd 129 d_mo_make_129 ?_
            refine mo_puti 130 22 d_mo_make_130 lp_218 ?_
            refine ev_iload_2 133 d_mo_make_133 ?_
            refine ev_iret 134 d_mo_make_134 rfl ?_
            exact ⟨_, _, _, rfl, rfl, Or.inr (Or.inr (Or.inr ⟨c5, c13, Int32.not_lt.mpr c18, fun z => c40 (by rw [z]; rfl), rfl, rfl, rfl⟩))⟩
          · exact absurd (mo_r0 hx) c51
        · refine ev_iconst_3 43 d_mo_make_43 ?_
          refine ev_goto 44 48 d_mo_make_44 ?_
          refine mo_calli1 48 d_mo_make_48 hZ kc_157 (mt_refuses hZ _) (fun x F1 B1 h => ?_)
          obtain ⟨hx, e1, e2⟩ := h
          subst F1
          subst B1
          refine ev_ifeq 51 56 d_mo_make_51 (fun c51 => ?_) (fun c51 => ?_)
          · exact absurd c51 (mo_rk hx (by decide))
          · refine ev_iconst_0 54 d_mo_make_54 ?_
            refine ev_iret 55 d_mo_make_55 rfl ?_
            exact ⟨_, _, _, rfl, rfl, Or.inr (Or.inr (Or.inl ⟨c5, c13, Int32.not_lt.mpr c18, (n_z (by have := mo_fh_le (B 16) (17 * R) 16; omega)).mp c40, rfl, rfl, rfl⟩))⟩
      · refine ev_iconst_2 21 d_mo_make_21 ?_
        refine ev_goto 22 48 d_mo_make_22 ?_
        refine mo_calli1 48 d_mo_make_48 hZ kc_157 (mt_refuses hZ _) (fun x F1 B1 h => ?_)
        obtain ⟨hx, e1, e2⟩ := h
        subst F1
        subst B1
        refine ev_ifeq 51 56 d_mo_make_51 (fun c51 => ?_) (fun c51 => ?_)
        · exact absurd c51 (mo_rk hx (by decide))
        · refine ev_iconst_0 54 d_mo_make_54 ?_
          refine ev_iret 55 d_mo_make_55 rfl ?_
          exact ⟨_, _, _, rfl, rfl, Or.inr (Or.inl ⟨c5, Or.inr (Int32.not_le.mp c18), rfl, rfl, rfl⟩)⟩
  · refine ev_iconst_1 8 d_mo_make_8 ?_
    refine ev_goto 9 48 d_mo_make_9 ?_
    refine mo_calli1 48 d_mo_make_48 hZ kc_157 (mt_refuses hZ _) (fun x F1 B1 h => ?_)
    obtain ⟨hx, e1, e2⟩ := h
    subst F1
    subst B1
    refine ev_ifeq 51 56 d_mo_make_51 (fun c51 => ?_) (fun c51 => ?_)
    · exact absurd c51 (mo_rk hx (by decide))
    · refine ev_iconst_0 54 d_mo_make_54 ?_
      refine ev_iret 55 d_mo_make_55 rfl ?_
      exact ⟨_, _, _, rfl, rfl, Or.inl ⟨c5, rfl, rfl, rfl⟩⟩

set_option maxHeartbeats 4000000 in
set_option maxRecDepth 100000 in
theorem mt_drop {l : Launch} {D : va_G} {tl : List (ClassId × FieldType)} {Z : (Nat → Prop) → State → Heap → Prop} {kI kZ : ClassId} {am : Nat → Nat} {F : Nat → Int32} {B : Nat → Nat → Int32} (hZ : ev_Zok Z) (h : Int32) (Lv : Nat) (hLv : F 29 = nI Lv) (hL6 : Lv ≤ 6) (R : Nat) (hR : 0 < Lv → B 30 (Lv - 1) = nI R ∧ R < 6) (hG : ∀ j, 1 ≤ j → j ≤ 16 → ¬ B 18 (17 * R + j) = 0 → vp_in (B 17 (17 * R + j)) 1024) (hO : ∀ y, B 18 y = 0 ∨ B 18 y = 1) : MT (mo_π l D cl_A kI kZ tl Z) m_drop 0 0 [.ref (am 60), .int h] (mo_W mo_ci am kI kZ F B) (mo_qi am kI kZ (fun x F1 B1 => (F 29 = 0 ∧ x = 0 ∧ F1 = upd F 0 1 ∧ B1 = B) ∨ (¬ F 29 = 0 ∧ (∀ j, 1 ≤ j → j ≤ 16 → h = nI j → B 16 (17 * R + j) = 0) ∧ x = 0 ∧ F1 = upd F 0 2 ∧ B1 = B) ∨ (¬ F 29 = 0 ∧ ∃ j, 1 ≤ j ∧ j ≤ 16 ∧ h = nI j ∧ ¬ B 16 (17 * R + j) = 0 ∧ ¬ mo_ln B (nI (17 * R + j)) (B 21 (17 * R + j)) 102 ≤ 0 ∧ x = 0 ∧ F1 = upd F 0 3 ∧ B1 = B) ∨ (¬ F 29 = 0 ∧ ∃ j, 1 ≤ j ∧ j ≤ 16 ∧ h = nI j ∧ ¬ B 16 (17 * R + j) = 0 ∧ mo_ln B (nI (17 * R + j)) (B 21 (17 * R + j)) 102 ≤ 0 ∧ x = B 18 (17 * R + j) ∧ F1 = upd F 0 0 ∧ ((B 18 (17 * R + j) = 0 ∧ B1 = va_up B 16 (upd (B 16) (17 * R + j) 0)) ∨ (¬ B 18 (17 * R + j) = 0 ∧ B1 = va_up (va_up B 16 (upd (B 16) (17 * R + j) 0)) 24 (upd (B 24) (B 17 (17 * R + j)).toNatClampNeg 1)))))) := by
  refine mt_of mo_pl rfl (Nat.le_of_ble_eq_true rfl) (ev_eq (lv' := [some (.ref (am 60)), some (.int h), none, none]) ?_)
  refine ev_aload_0 0 d_mo_drop_0 ?_
  refine mo_geti 1 29 d_mo_drop_1 lk_208 ?_
  refine ev_ifle 4 46 d_mo_drop_4 (fun c4 => ?_) (fun c4 => ?_)
  · refine ev_iconst_0 46 d_mo_drop_46 ?_
    refine ev_istore_2 47 d_mo_drop_47 ?_
    refine ev_aload_0 48 d_mo_drop_48 ?_
    refine ev_aload_0 49 d_mo_drop_49 ?_
    refine mo_geti 50 29 d_mo_drop_50 lk_208 ?_
    refine ev_ifne 53 60 d_mo_drop_53 (fun c53 => ?_) (fun c53 => ?_)
    · exact absurd (show F 29 = 0 by have := n_le Lv 0 c4 hLv; rw [hLv, show Lv = 0 by omega]; rfl) c53
    · refine ev_iconst_1 56 d_mo_drop_56 ?_
      refine ev_goto 57 96 d_mo_drop_57 ?_
      refine mo_calli1 96 d_mo_drop_96 hZ kc_157 (mt_refuses hZ _) (fun x F1 B1 h => ?_)
      obtain ⟨hx, e1, e2⟩ := h
      subst F1
      subst B1
      refine ev_ifeq 99 104 d_mo_drop_99 (fun c99 => ?_) (fun c99 => ?_)
      · exact absurd c99 (mo_rk hx (by decide))
      · refine ev_iconst_0 102 d_mo_drop_102 ?_
        refine ev_zret 103 d_mo_drop_103 rfl ?_ ?_
        · first | rfl | (show narrow .boolean (.int (B 18 (17 * R + jj))) = .int (B 18 (17 * R + jj)); rcases hO (17 * R + jj) with z | z <;> rw [z] <;> rfl)
        exact ⟨_, _, _, rfl, rfl, Or.inl ⟨c53, rfl, rfl, rfl⟩⟩
  · have hp : 0 < Lv := Nat.pos_of_ne_zero (fun z => c4 (by rw [hLv, z]; decide))
    refine ev_iload_1 7 d_mo_drop_7 ?_
    refine ev_iconst_1 8 d_mo_drop_8 ?_
    refine ev_icmplt 9 46 d_mo_drop_9 (fun c9 => ?_) (fun c9 => ?_)
    · refine ev_iconst_0 46 d_mo_drop_46 ?_
      refine ev_istore_2 47 d_mo_drop_47 ?_
      refine ev_aload_0 48 d_mo_drop_48 ?_
      refine ev_aload_0 49 d_mo_drop_49 ?_
      refine mo_geti 50 29 d_mo_drop_50 lk_208 ?_
      refine ev_ifne 53 60 d_mo_drop_53 (fun c53 => ?_) (fun c53 => ?_)
      · refine ev_iload_2 60 d_mo_drop_60 ?_
        refine ev_ifne 61 68 d_mo_drop_61 (fun c61 => ?_) (fun c61 => ?_)
        · exact absurd rfl c61
        · refine ev_iconst_2 64 d_mo_drop_64 ?_
          refine ev_goto 65 96 d_mo_drop_65 ?_
          refine mo_calli1 96 d_mo_drop_96 hZ kc_157 (mt_refuses hZ _) (fun x F1 B1 h => ?_)
          obtain ⟨hx, e1, e2⟩ := h
          subst F1
          subst B1
          refine ev_ifeq 99 104 d_mo_drop_99 (fun c99 => ?_) (fun c99 => ?_)
          · exact absurd c99 (mo_rk hx (by decide))
          · refine ev_iconst_0 102 d_mo_drop_102 ?_
            refine ev_zret 103 d_mo_drop_103 rfl ?_ ?_
            · first | rfl | (show narrow .boolean (.int (B 18 (17 * R + jj))) = .int (B 18 (17 * R + jj)); rcases hO (17 * R + jj) with z | z <;> rw [z] <;> rfl)
            exact ⟨_, _, _, rfl, rfl, Or.inr (Or.inl ⟨c53, fun j h1 h2 hj => absurd (by rw [hj] at c9; exact n_lt j 1 c9) (by omega), rfl, rfl, rfl⟩)⟩
      · exact absurd (show F 29 ≤ 0 by rw [show F 29 = 0 from c53]; decide) c4
    · refine ev_iload_1 12 d_mo_drop_12 ?_
      refine ev_bipush (16) 13 d_mo_drop_13 (by decide) ?_
      refine ev_icmpgt 15 46 d_mo_drop_15 (fun c15 => ?_) (fun c15 => ?_)
      · refine ev_iconst_0 46 d_mo_drop_46 ?_
        refine ev_istore_2 47 d_mo_drop_47 ?_
        refine ev_aload_0 48 d_mo_drop_48 ?_
        refine ev_aload_0 49 d_mo_drop_49 ?_
        refine mo_geti 50 29 d_mo_drop_50 lk_208 ?_
        refine ev_ifne 53 60 d_mo_drop_53 (fun c53 => ?_) (fun c53 => ?_)
        · refine ev_iload_2 60 d_mo_drop_60 ?_
          refine ev_ifne 61 68 d_mo_drop_61 (fun c61 => ?_) (fun c61 => ?_)
          · exact absurd rfl c61
          · refine ev_iconst_2 64 d_mo_drop_64 ?_
            refine ev_goto 65 96 d_mo_drop_65 ?_
            refine mo_calli1 96 d_mo_drop_96 hZ kc_157 (mt_refuses hZ _) (fun x F1 B1 h => ?_)
            obtain ⟨hx, e1, e2⟩ := h
            subst F1
            subst B1
            refine ev_ifeq 99 104 d_mo_drop_99 (fun c99 => ?_) (fun c99 => ?_)
            · exact absurd c99 (mo_rk hx (by decide))
            · refine ev_iconst_0 102 d_mo_drop_102 ?_
              refine ev_zret 103 d_mo_drop_103 rfl ?_ ?_
              · first | rfl | (show narrow .boolean (.int (B 18 (17 * R + jj))) = .int (B 18 (17 * R + jj)); rcases hO (17 * R + jj) with z | z <;> rw [z] <;> rfl)
              exact ⟨_, _, _, rfl, rfl, Or.inr (Or.inl ⟨c53, fun j h1 h2 hj => absurd (by rw [hj] at c15; exact n_lt 16 j c15) (by omega), rfl, rfl, rfl⟩)⟩
        · exact absurd (show F 29 ≤ 0 by rw [show F 29 = 0 from c53]; decide) c4
      · obtain ⟨jj, hj1, hj2, rfl⟩ := n_rng c9 c15
        refine ev_aload_0 18 d_mo_drop_18 ?_
        refine mo_getr 19 12 16 d_mo_drop_19 lk_46 ?_
        refine ev_bipush (17) 22 d_mo_drop_22 (by decide) ?_
        refine ev_aload_0 24 d_mo_drop_24 ?_
        refine mo_getr 25 23 30 d_mo_drop_25 lk_80 ?_
        refine ev_aload_0 28 d_mo_drop_28 ?_
        refine mo_geti 29 29 d_mo_drop_29 lk_208 ?_
        refine ev_iconst_1 32 d_mo_drop_32 ?_
        refine ev_isub 33 d_mo_drop_33 ?_
        refine ev_topi (nI (Lv - 1)) (by show F 29 - 1 = nI (Lv - 1); rw [hLv]; exact n_s1 hp) ?_
        refine mo_aldn (j := Lv - 1) 34 23 30 d_mo_drop_34 (by show Lv - 1 < 6; omega) ?_
        refine ev_topi (nI R) (hR hp).1 ?_
        refine ev_imul 35 d_mo_drop_35 ?_
        refine ev_iload_1 36 d_mo_drop_36 ?_
        refine ev_iadd 37 d_mo_drop_37 ?_
        refine ev_topi (nI (17 * R + jj)) (by rw [n_17, pk_mul, nI_add]) ?_
        refine mo_zldn (j := 17 * R + jj) 38 12 16 d_mo_drop_38 (by have := (hR hp).2; show 17 * R + jj < 102; omega) ?_
        refine ev_ifeq 39 46 d_mo_drop_39 (fun c39 => ?_) (fun c39 => ?_)
        · refine ev_iconst_0 46 d_mo_drop_46 ?_
          refine ev_istore_2 47 d_mo_drop_47 ?_
          refine ev_aload_0 48 d_mo_drop_48 ?_
          refine ev_aload_0 49 d_mo_drop_49 ?_
          refine mo_geti 50 29 d_mo_drop_50 lk_208 ?_
          refine ev_ifne 53 60 d_mo_drop_53 (fun c53 => ?_) (fun c53 => ?_)
          · refine ev_iload_2 60 d_mo_drop_60 ?_
            refine ev_ifne 61 68 d_mo_drop_61 (fun c61 => ?_) (fun c61 => ?_)
            · exact absurd rfl c61
            · refine ev_iconst_2 64 d_mo_drop_64 ?_
              refine ev_goto 65 96 d_mo_drop_65 ?_
              refine mo_calli1 96 d_mo_drop_96 hZ kc_157 (mt_refuses hZ _) (fun x F1 B1 h => ?_)
              obtain ⟨hx, e1, e2⟩ := h
              subst F1
              subst B1
              refine ev_ifeq 99 104 d_mo_drop_99 (fun c99 => ?_) (fun c99 => ?_)
              · exact absurd c99 (mo_rk hx (by decide))
              · refine ev_iconst_0 102 d_mo_drop_102 ?_
                refine ev_zret 103 d_mo_drop_103 rfl ?_ ?_
                · first | rfl | (show narrow .boolean (.int (B 18 (17 * R + jj))) = .int (B 18 (17 * R + jj)); rcases hO (17 * R + jj) with z | z <;> rw [z] <;> rfl)
                exact ⟨_, _, _, rfl, rfl, Or.inr (Or.inl ⟨c53, fun j h1 h2 hj => by obtain rfl := (nI_eq (by omega) (by omega)).mp hj; exact c39, rfl, rfl, rfl⟩)⟩
          · exact absurd (show F 29 ≤ 0 by rw [show F 29 = 0 from c53]; decide) c4
        · refine ev_iconst_1 42 d_mo_drop_42 ?_
          refine ev_goto 43 47 d_mo_drop_43 ?_
          refine ev_istore_2 47 d_mo_drop_47 ?_
          refine ev_aload_0 48 d_mo_drop_48 ?_
          refine ev_aload_0 49 d_mo_drop_49 ?_
          refine mo_geti 50 29 d_mo_drop_50 lk_208 ?_
          refine ev_ifne 53 60 d_mo_drop_53 (fun c53 => ?_) (fun c53 => ?_)
          · refine ev_iload_2 60 d_mo_drop_60 ?_
            refine ev_ifne 61 68 d_mo_drop_61 (fun c61 => ?_) (fun c61 => ?_)
            · refine ev_aload_0 68 d_mo_drop_68 ?_
              refine ev_bipush (17) 69 d_mo_drop_69 (by decide) ?_
              refine ev_aload_0 71 d_mo_drop_71 ?_
              refine mo_getr 72 23 30 d_mo_drop_72 lk_80 ?_
              refine ev_aload_0 75 d_mo_drop_75 ?_
              refine mo_geti 76 29 d_mo_drop_76 lk_208 ?_
              refine ev_iconst_1 79 d_mo_drop_79 ?_
              refine ev_isub 80 d_mo_drop_80 ?_
              refine ev_topi (nI (Lv - 1)) (by show F 29 - 1 = nI (Lv - 1); rw [hLv]; exact n_s1 hp) ?_
              refine mo_aldn (j := Lv - 1) 81 23 30 d_mo_drop_81 (by show Lv - 1 < 6; omega) ?_
              refine ev_topi (nI R) (hR hp).1 ?_
              refine ev_imul 82 d_mo_drop_82 ?_
              refine ev_iload_1 83 d_mo_drop_83 ?_
              refine ev_iadd 84 d_mo_drop_84 ?_
              refine ev_topi (nI (17 * R + jj)) (by rw [n_17, pk_mul, nI_add]) ?_
              refine mo_calli1 85 d_mo_drop_85 hZ kc_221 (mt_loans hZ (17 * R + jj) (by have := (hR hp).2; show 17 * R + jj < 102; omega)) (fun y F1 B1 h => ?_)
              obtain ⟨rfl, e1, e2⟩ := h
              subst F1
              subst B1
              refine ev_ifle 88 95 d_mo_drop_88 (fun c88 => ?_) (fun c88 => ?_)
              · refine ev_iconst_0 95 d_mo_drop_95 ?_
                refine mo_calli1 96 d_mo_drop_96 hZ kc_157 (mt_refuses hZ _) (fun x F1 B1 h => ?_)
                obtain ⟨hx, e1, e2⟩ := h
                subst F1
                subst B1
                refine ev_ifeq 99 104 d_mo_drop_99 (fun c99 => ?_) (fun c99 => ?_)
                · refine ev_bipush (17) 104 d_mo_drop_104 (by decide) ?_
                  refine ev_aload_0 106 d_mo_drop_106 ?_
                  refine mo_getr 107 23 30 d_mo_drop_107 lk_80 ?_
                  refine ev_aload_0 110 d_mo_drop_110 ?_
                  refine mo_geti 111 29 d_mo_drop_111 lk_208 ?_
                  refine ev_iconst_1 114 d_mo_drop_114 ?_
                  refine ev_isub 115 d_mo_drop_115 ?_
                  refine ev_topi (nI (Lv - 1)) (by show F 29 - 1 = nI (Lv - 1); rw [hLv]; exact n_s1 hp) ?_
                  refine mo_aldn (j := Lv - 1) 116 23 30 d_mo_drop_116 (by show Lv - 1 < 6; omega) ?_
                  refine ev_topi (nI R) (hR hp).1 ?_
                  refine ev_imul 117 d_mo_drop_117 ?_
                  refine ev_iload_1 118 d_mo_drop_118 ?_
                  refine ev_iadd 119 d_mo_drop_119 ?_
                  refine ev_topi (nI (17 * R + jj)) (by rw [n_17, pk_mul, nI_add]) ?_
                  refine ev_istore_3 120 d_mo_drop_120 ?_
                  refine ev_aload_0 121 d_mo_drop_121 ?_
                  refine mo_getr 122 12 16 d_mo_drop_122 lk_46 ?_
                  refine ev_iload_3 125 d_mo_drop_125 ?_
                  refine ev_iconst_0 126 d_mo_drop_126 ?_
                  refine mo_zstn (j := 17 * R + jj) 127 12 16 d_mo_drop_127 (by have := (hR hp).2; show 17 * R + jj < 102; omega) (by exact Or.inl rfl) ?_
                  refine ev_aload_0 128 d_mo_drop_128 ?_
                  refine mo_getr 129 14 18 d_mo_drop_129 lk_53 ?_
                  refine ev_iload_3 132 d_mo_drop_132 ?_
                  refine mo_zldn (j := 17 * R + jj) 133 14 18 d_mo_drop_133 (by have := (hR hp).2; show 17 * R + jj < 102; omega) ?_
                  refine ev_ifeq 134 149 d_mo_drop_134 (fun c134 => ?_) (fun c134 => ?_)
                  · refine ev_aload_0 149 d_mo_drop_149 ?_
                    refine mo_getr 150 14 18 d_mo_drop_150 lk_53 ?_
                    refine ev_iload_3 153 d_mo_drop_153 ?_
                    refine mo_zldn (j := 17 * R + jj) 154 14 18 d_mo_drop_154 (by have := (hR hp).2; show 17 * R + jj < 102; omega) ?_
                    refine ev_zret 155 d_mo_drop_155 rfl ?_ ?_
                    · first | rfl | (show narrow .boolean (.int (B 18 (17 * R + jj))) = .int (B 18 (17 * R + jj)); rcases hO (17 * R + jj) with z | z <;> rw [z] <;> rfl)
                    exact ⟨_, _, _, rfl, rfl, Or.inr (Or.inr (Or.inr ⟨c53, jj, hj1, hj2, rfl, c39, c88, rfl, rfl, Or.inl ⟨c134, rfl⟩⟩))⟩
                  · refine ev_aload_0 137 d_mo_drop_137 ?_
                    refine mo_getr 138 19 24 d_mo_drop_138 lk_68 ?_
                    refine ev_aload_0 141 d_mo_drop_141 ?_
                    refine mo_getr 142 13 17 d_mo_drop_142 lk_50 ?_
                    refine ev_iload_3 145 d_mo_drop_145 ?_
                    refine mo_aldn (j := 17 * R + jj) 146 13 17 d_mo_drop_146 (by have := (hR hp).2; show 17 * R + jj < 102; omega) ?_
                    refine ev_iconst_1 147 d_mo_drop_147 ?_
                    refine mo_zst 148 19 24 d_mo_drop_148 (by exact hG jj hj1 hj2 c134) ?_
                    refine ev_aload_0 149 d_mo_drop_149 ?_
                    refine mo_getr 150 14 18 d_mo_drop_150 lk_53 ?_
                    refine ev_iload_3 153 d_mo_drop_153 ?_
                    refine mo_zldn (j := 17 * R + jj) 154 14 18 d_mo_drop_154 (by have := (hR hp).2; show 17 * R + jj < 102; omega) ?_
                    refine ev_zret 155 d_mo_drop_155 rfl ?_ ?_
                    · first | rfl | (show narrow .boolean (.int (B 18 (17 * R + jj))) = .int (B 18 (17 * R + jj)); rcases hO (17 * R + jj) with z | z <;> rw [z] <;> rfl)
                    exact ⟨_, _, _, rfl, rfl, Or.inr (Or.inr (Or.inr ⟨c53, jj, hj1, hj2, rfl, c39, c88, rfl, rfl, Or.inr ⟨c134, rfl⟩⟩))⟩
                · exact absurd (mo_r0 hx) c99
              · refine ev_iconst_3 91 d_mo_drop_91 ?_
                refine ev_goto 92 96 d_mo_drop_92 ?_
                refine mo_calli1 96 d_mo_drop_96 hZ kc_157 (mt_refuses hZ _) (fun x F1 B1 h => ?_)
                obtain ⟨hx, e1, e2⟩ := h
                subst F1
                subst B1
                refine ev_ifeq 99 104 d_mo_drop_99 (fun c99 => ?_) (fun c99 => ?_)
                · exact absurd c99 (mo_rk hx (by decide))
                · refine ev_iconst_0 102 d_mo_drop_102 ?_
                  refine ev_zret 103 d_mo_drop_103 rfl ?_ ?_
                  · first | rfl | (show narrow .boolean (.int (B 18 (17 * R + jj))) = .int (B 18 (17 * R + jj)); rcases hO (17 * R + jj) with z | z <;> rw [z] <;> rfl)
                  exact ⟨_, _, _, rfl, rfl, Or.inr (Or.inr (Or.inl ⟨c53, jj, hj1, hj2, rfl, c39, c88, rfl, rfl, rfl⟩))⟩
            · exact absurd c61 (by decide)
          · exact absurd (show F 29 ≤ 0 by rw [show F 29 = 0 from c53]; decide) c4
