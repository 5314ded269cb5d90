def mo_psz (k : Int32) : Int32 := if k = 2 then 2 else if k = 3 ∨ k = 5 ∨ k = 6 ∨ k = 8 then 4 else if k = 4 then 8 else 1
def mo_aw (B : Nat → Nat → Int32) (w : Nat) (t u mn pl ab i : Int32) : Nat → Nat → Int32 := va_up (va_up (va_up (va_up (va_up (va_up B 37 (upd (B 37) w t)) 38 (upd (B 38) w u)) 39 (upd (B 39) w mn)) 40 (upd (B 40) w pl)) 41 (upd (B 41) w ab)) 42 (upd (B 42) w i)
abbrev mo_al (B : Nat → Nat → Int32) (t u : Nat) : Prop := B 2 t = B 2 u ∧ (B 2 t = 7 → ¬ B 3 u < B 3 t) ∧ (¬ B 2 t < 11 → B 3 t = B 3 u) ∧ (B 2 t = 9 → ¬ B 7 t < B 7 u) ∧ (B 2 t = 10 → ¬ B 7 u < B 7 t)
def mo_fl (F : Nat → Int32) (c p : Int32) : Nat → Int32 := if F 54 = 0 then upd (upd F 54 c) 55 p else F

set_option maxHeartbeats 4000000 in
set_option maxRecDepth 100000 in
theorem mt_thrown {l : Launch} {D : va_G} {tl : List (ClassId × FieldType)} {Z : (Nat → Prop) → State → Heap → Prop} {kI kZ : ClassId} {am : Nat → Nat} {F : Nat → Int32} {B : Nat → Nat → Int32} (hZ : ev_Zok Z)  : MT (mo_π l D cl_A kI kZ tl Z) m_thrown 0 0 [.ref (am 60)] (mo_W mo_ci am kI kZ F B) (mo_qi am kI kZ (fun x F1 B1 => x = F 0 ∧ F1 = F ∧ B1 = B)) := by
  refine mt_of mo_pl rfl (Nat.le_of_ble_eq_true rfl) (ev_eq (lv' := [some (.ref (am 60))]) ?_)
  refine ev_aload_0 0 d_mo_thrown_0 ?_
  refine mo_geti 1 0 d_mo_thrown_1 lk_141 ?_
  refine ev_iret 4 d_mo_thrown_4 rfl ?_
  exact ⟨_, _, _, rfl, rfl, rfl, rfl, rfl⟩

set_option maxHeartbeats 4000000 in
set_option maxRecDepth 100000 in
theorem mt_refuses {l : Launch} {D : va_G} {tl : List (ClassId × FieldType)} {Z : (Nat → Prop) → State → Heap → Prop} {kI kZ : ClassId} {am : Nat → Nat} {F : Nat → Int32} {B : Nat → Nat → Int32} (hZ : ev_Zok Z) (c : Int32)  : MT (mo_π l D cl_A kI kZ tl Z) m_refuses 0 0 [.ref (am 60), .int c] (mo_W mo_ci am kI kZ F B) (mo_qi am kI kZ (fun x F1 B1 => mo_bl x (¬ c ≤ 0) ∧ F1 = upd F 0 c ∧ B1 = B)) := by
  refine mt_of mo_pl rfl (Nat.le_of_ble_eq_true rfl) (ev_eq (lv' := [some (.ref (am 60)), some (.int c)]) ?_)
  refine ev_aload_0 0 d_mo_refuses_0 ?_
  refine ev_iload_1 1 d_mo_refuses_1 ?_
  refine mo_puti 2 0 d_mo_refuses_2 lp_141 ?_
  refine ev_iload_1 5 d_mo_refuses_5 ?_
  refine ev_ifle 6 13 d_mo_refuses_6 (fun c6 => ?_) (fun c6 => ?_)
  · refine ev_iconst_0 13 d_mo_refuses_13 ?_
    refine ev_zret 14 d_mo_refuses_14 rfl ?_ ?_
    · rfl
    exact ⟨_, _, _, rfl, rfl, by first | exact Or.inl ⟨rfl, c6⟩ | exact Or.inr ⟨rfl, fun z => z c6⟩, rfl, rfl⟩
  · refine ev_iconst_1 9 d_mo_refuses_9 ?_
    refine ev_goto 10 14 d_mo_refuses_10 ?_
    refine ev_zret 14 d_mo_refuses_14 rfl ?_ ?_
    · rfl
    exact ⟨_, _, _, rfl, rfl, by first | exact Or.inl ⟨rfl, c6⟩ | exact Or.inr ⟨rfl, fun z => z c6⟩, rfl, rfl⟩

set_option maxHeartbeats 4000000 in
set_option maxRecDepth 100000 in
theorem mt_isType {l : Launch} {D : va_G} {tl : List (ClassId × FieldType)} {Z : (Nat → Prop) → State → Heap → Prop} {kI kZ : ClassId} {am : Nat → Nat} {F : Nat → Int32} {B : Nat → Nat → Int32} (hZ : ev_Zok Z) (t : Int32)  : MT (mo_π l D cl_A kI kZ tl Z) m_isType 0 0 [.ref (am 60), .int t] (mo_W mo_ci am kI kZ F B) (mo_qi am kI kZ (fun x F1 B1 => mo_bl x (¬ t < 0 ∧ ¬ F 1 ≤ t) ∧ F1 = F ∧ B1 = B)) := by
  refine mt_of mo_pl rfl (Nat.le_of_ble_eq_true rfl) (ev_eq (lv' := [some (.ref (am 60)), some (.int t)]) ?_)
  refine ev_iload_1 0 d_mo_isType_0 ?_
  refine ev_iflt 1 16 d_mo_isType_1 (fun c1 => ?_) (fun c1 => ?_)
  · refine ev_iconst_0 16 d_mo_isType_16 ?_
    refine ev_zret 17 d_mo_isType_17 rfl ?_ ?_
    · rfl
    exact ⟨_, _, _, rfl, rfl, by first | exact Or.inl ⟨rfl, c1, c9⟩ | exact Or.inr ⟨rfl, fun z => z.1 c1⟩ | exact Or.inr ⟨rfl, fun z => z.2 c9⟩, rfl, rfl⟩
  · refine ev_iload_1 4 d_mo_isType_4 ?_
    refine ev_aload_0 5 d_mo_isType_5 ?_
    refine mo_geti 6 1 d_mo_isType_6 lk_144 ?_
    refine ev_icmpge 9 16 d_mo_isType_9 (fun c9 => ?_) (fun c9 => ?_)
    · refine ev_iconst_0 16 d_mo_isType_16 ?_
      refine ev_zret 17 d_mo_isType_17 rfl ?_ ?_
      · rfl
      exact ⟨_, _, _, rfl, rfl, by first | exact Or.inl ⟨rfl, c1, c9⟩ | exact Or.inr ⟨rfl, fun z => z.1 c1⟩ | exact Or.inr ⟨rfl, fun z => z.2 c9⟩, rfl, rfl⟩
    · refine ev_iconst_1 12 d_mo_isType_12 ?_
      refine ev_goto 13 17 d_mo_isType_13 ?_
      refine ev_zret 17 d_mo_isType_17 rfl ?_ ?_
      · rfl
      exact ⟨_, _, _, rfl, rfl, by first | exact Or.inl ⟨rfl, c1, c9⟩ | exact Or.inr ⟨rfl, fun z => z.1 c1⟩ | exact Or.inr ⟨rfl, fun z => z.2 c9⟩, rfl, rfl⟩

set_option maxHeartbeats 4000000 in
set_option maxRecDepth 100000 in
theorem mt_isInstance {l : Launch} {D : va_G} {tl : List (ClassId × FieldType)} {Z : (Nat → Prop) → State → Heap → Prop} {kI kZ : ClassId} {am : Nat → Nat} {F : Nat → Int32} {B : Nat → Nat → Int32} (hZ : ev_Zok Z) (t : Int32)  : MT (mo_π l D cl_A kI kZ tl Z) m_isInstance 0 0 [.ref (am 60), .int t] (mo_W mo_ci am kI kZ F B) (mo_qi am kI kZ (fun x F1 B1 => mo_bl x (¬ t < 0 ∧ ¬ F 12 ≤ t) ∧ F1 = F ∧ B1 = B)) := by
  refine mt_of mo_pl rfl (Nat.le_of_ble_eq_true rfl) (ev_eq (lv' := [some (.ref (am 60)), some (.int t)]) ?_)
  refine ev_iload_1 0 d_mo_isInstance_0 ?_
  refine ev_iflt 1 16 d_mo_isInstance_1 (fun c1 => ?_) (fun c1 => ?_)
  · refine ev_iconst_0 16 d_mo_isInstance_16 ?_
    refine ev_zret 17 d_mo_isInstance_17 rfl ?_ ?_
    · rfl
    exact ⟨_, _, _, rfl, rfl, by first | exact Or.inl ⟨rfl, c1, c9⟩ | exact Or.inr ⟨rfl, fun z => z.1 c1⟩ | exact Or.inr ⟨rfl, fun z => z.2 c9⟩, rfl, rfl⟩
  · refine ev_iload_1 4 d_mo_isInstance_4 ?_
    refine ev_aload_0 5 d_mo_isInstance_5 ?_
    refine mo_geti 6 12 d_mo_isInstance_6 lk_147 ?_
    refine ev_icmpge 9 16 d_mo_isInstance_9 (fun c9 => ?_) (fun c9 => ?_)
    · refine ev_iconst_0 16 d_mo_isInstance_16 ?_
      refine ev_zret 17 d_mo_isInstance_17 rfl ?_ ?_
      · rfl
      exact ⟨_, _, _, rfl, rfl, by first | exact Or.inl ⟨rfl, c1, c9⟩ | exact Or.inr ⟨rfl, fun z => z.1 c1⟩ | exact Or.inr ⟨rfl, fun z => z.2 c9⟩, rfl, rfl⟩
    · refine ev_iconst_1 12 d_mo_isInstance_12 ?_
      refine ev_goto 13 17 d_mo_isInstance_13 ?_
      refine ev_zret 17 d_mo_isInstance_17 rfl ?_ ?_
      · rfl
      exact ⟨_, _, _, rfl, rfl, by first | exact Or.inl ⟨rfl, c1, c9⟩ | exact Or.inr ⟨rfl, fun z => z.1 c1⟩ | exact Or.inr ⟨rfl, fun z => z.2 c9⟩, rfl, rfl⟩

set_option maxHeartbeats 4000000 in
set_option maxRecDepth 100000 in
theorem mt_upTo {l : Launch} {D : va_G} {tl : List (ClassId × FieldType)} {Z : (Nat → Prop) → State → Heap → Prop} {kI kZ : ClassId} {am : Nat → Nat} {F : Nat → Int32} {B : Nat → Nat → Int32} (hZ : ev_Zok Z) (pl : Int32) (al : Int32) (ha : ¬ al = 0) : MT (mo_π l D cl_A kI kZ tl Z) m_upTo 0 0 [.int pl, .int al] (mo_W mo_ci am kI kZ F B) (mo_qi am kI kZ (fun x F1 B1 => x = (pl + al - 1) / al * al ∧ F1 = F ∧ B1 = B)) := by
  refine mt_of mo_pl rfl (Nat.le_of_ble_eq_true rfl) (ev_eq (lv' := [some (.int pl), some (.int al)]) ?_)
  refine ev_iload_0 0 d_mo_upTo_0 ?_
  refine ev_iload_1 1 d_mo_upTo_1 ?_
  refine ev_iadd 2 d_mo_upTo_2 ?_
  refine ev_iconst_1 3 d_mo_upTo_3 ?_
  refine ev_isub 4 d_mo_upTo_4 ?_
  refine ev_iload_1 5 d_mo_upTo_5 ?_
  refine ev_idiv 6 d_mo_upTo_6 (by exact ha) ?_
  refine ev_iload_1 7 d_mo_upTo_7 ?_
  refine ev_imul 8 d_mo_upTo_8 ?_
  refine ev_iret 9 d_mo_upTo_9 rfl ?_
  exact ⟨_, _, _, rfl, rfl, rfl, rfl, rfl⟩

set_option maxHeartbeats 4000000 in
set_option maxRecDepth 100000 in
theorem mt_plainSize {l : Launch} {D : va_G} {tl : List (ClassId × FieldType)} {Z : (Nat → Prop) → State → Heap → Prop} {kI kZ : ClassId} {am : Nat → Nat} {F : Nat → Int32} {B : Nat → Nat → Int32} (hZ : ev_Zok Z) (k : Int32)  : MT (mo_π l D cl_A kI kZ tl Z) m_plainSize 0 0 [.int k] (mo_W mo_ci am kI kZ F B) (mo_qi am kI kZ (fun x F1 B1 => x = mo_psz k ∧ F1 = F ∧ B1 = B)) := by
  refine mt_of mo_pl rfl (Nat.le_of_ble_eq_true rfl) (ev_eq (lv' := [some (.int k)]) ?_)
  refine ev_iload_0 0 d_mo_plainSize_0 ?_
  refine ev_iconst_2 1 d_mo_plainSize_1 ?_
  refine ev_icmpne 2 9 d_mo_plainSize_2 (fun c2 => ?_) (fun c2 => ?_)
  · refine ev_iload_0 9 d_mo_plainSize_9 ?_
    refine ev_iconst_3 10 d_mo_plainSize_10 ?_
    refine ev_icmpeq 11 31 d_mo_plainSize_11 (fun c11 => ?_) (fun c11 => ?_)
    · refine ev_iconst_4 31 d_mo_plainSize_31 ?_
      refine ev_goto 32 46 d_mo_plainSize_32 ?_
      refine ev_iret 46 d_mo_plainSize_46 rfl ?_
      exact ⟨_, _, _, rfl, rfl, by simp_all [mo_psz], rfl, rfl⟩
    · refine ev_iload_0 14 d_mo_plainSize_14 ?_
      refine ev_iconst_5 15 d_mo_plainSize_15 ?_
      refine ev_icmpeq 16 31 d_mo_plainSize_16 (fun c16 => ?_) (fun c16 => ?_)
      · refine ev_iconst_4 31 d_mo_plainSize_31 ?_
        refine ev_goto 32 46 d_mo_plainSize_32 ?_
        refine ev_iret 46 d_mo_plainSize_46 rfl ?_
        exact ⟨_, _, _, rfl, rfl, by simp_all [mo_psz], rfl, rfl⟩
      · refine ev_iload_0 19 d_mo_plainSize_19 ?_
        refine ev_bipush (6) 20 d_mo_plainSize_20 (by decide) ?_
        refine ev_icmpeq 22 31 d_mo_plainSize_22 (fun c22 => ?_) (fun c22 => ?_)
        · refine ev_iconst_4 31 d_mo_plainSize_31 ?_
          refine ev_goto 32 46 d_mo_plainSize_32 ?_
          refine ev_iret 46 d_mo_plainSize_46 rfl ?_
          exact ⟨_, _, _, rfl, rfl, by simp_all [mo_psz], rfl, rfl⟩
        · refine ev_iload_0 25 d_mo_plainSize_25 ?_
          refine ev_bipush (8) 26 d_mo_plainSize_26 (by decide) ?_
          refine ev_icmpne 28 35 d_mo_plainSize_28 (fun c28 => ?_) (fun c28 => ?_)
          · refine ev_iload_0 35 d_mo_plainSize_35 ?_
            refine ev_iconst_4 36 d_mo_plainSize_36 ?_
            refine ev_icmpne 37 45 d_mo_plainSize_37 (fun c37 => ?_) (fun c37 => ?_)
            · refine ev_iconst_1 45 d_mo_plainSize_45 ?_
              refine ev_iret 46 d_mo_plainSize_46 rfl ?_
              exact ⟨_, _, _, rfl, rfl, by simp_all [mo_psz], rfl, rfl⟩
            · refine ev_bipush (8) 40 d_mo_plainSize_40 (by decide) ?_
              refine ev_goto 42 46 d_mo_plainSize_42 ?_
              refine ev_iret 46 d_mo_plainSize_46 rfl ?_
              exact ⟨_, _, _, rfl, rfl, by simp_all [mo_psz], rfl, rfl⟩
          · refine ev_iconst_4 31 d_mo_plainSize_31 ?_
            refine ev_goto 32 46 d_mo_plainSize_32 ?_
            refine ev_iret 46 d_mo_plainSize_46 rfl ?_
            exact ⟨_, _, _, rfl, rfl, by simp_all [mo_psz], rfl, rfl⟩
  · refine ev_iconst_2 5 d_mo_plainSize_5 ?_
    refine ev_goto 6 46 d_mo_plainSize_6 ?_
    refine ev_iret 46 d_mo_plainSize_46 rfl ?_
    exact ⟨_, _, _, rfl, rfl, by simp_all [mo_psz], rfl, rfl⟩

set_option maxHeartbeats 4000000 in
set_option maxRecDepth 100000 in
theorem mt_shared {l : Launch} {D : va_G} {tl : List (ClassId × FieldType)} {Z : (Nat → Prop) → State → Heap → Prop} {kI kZ : ClassId} {am : Nat → Nat} {F : Nat → Int32} {B : Nat → Nat → Int32} (hZ : ev_Zok Z) (t : Int32) (u : Int32) (ht : vp_in t 32) (hu : vp_in u 32) : MT (mo_π l D cl_A kI kZ tl Z) m_shared 0 0 [.ref (am 60), .int t, .int u] (mo_W mo_ci am kI kZ F B) (mo_qi am kI kZ (fun x F1 B1 => x = (if B 7 u.toNatClampNeg ≤ B 7 t.toNatClampNeg then B 7 u.toNatClampNeg else B 7 t.toNatClampNeg) ∧ F1 = F ∧ B1 = B)) := by
  refine mt_of mo_pl rfl (Nat.le_of_ble_eq_true rfl) (ev_eq (lv' := [some (.ref (am 60)), some (.int t), some (.int u)]) ?_)
  refine ev_aload_0 0 d_mo_shared_0 ?_
  refine mo_getr 1 5 7 d_mo_shared_1 lk_25 ?_
  refine ev_iload_1 4 d_mo_shared_4 ?_
  refine mo_ald 5 5 7 d_mo_shared_5 (by first | exact ht | exact hu) ?_
  refine ev_aload_0 6 d_mo_shared_6 ?_
  refine mo_getr 7 5 7 d_mo_shared_7 lk_25 ?_
  refine ev_iload_2 10 d_mo_shared_10 ?_
  refine mo_ald 11 5 7 d_mo_shared_11 (by first | exact ht | exact hu) ?_
  refine ev_icmpge 12 24 d_mo_shared_12 (fun c12 => ?_) (fun c12 => ?_)
  · refine ev_aload_0 24 d_mo_shared_24 ?_
    refine mo_getr 25 5 7 d_mo_shared_25 lk_25 ?_
    refine ev_iload_2 28 d_mo_shared_28 ?_
    refine mo_ald 29 5 7 d_mo_shared_29 (by first | exact ht | exact hu) ?_
    refine ev_iret 30 d_mo_shared_30 rfl ?_
    exact ⟨_, _, _, rfl, rfl, by first | rw [if_pos c12] | rw [if_neg c12], rfl, rfl⟩
  · refine ev_aload_0 15 d_mo_shared_15 ?_
    refine mo_getr 16 5 7 d_mo_shared_16 lk_25 ?_
    refine ev_iload_1 19 d_mo_shared_19 ?_
    refine mo_ald 20 5 7 d_mo_shared_20 (by first | exact ht | exact hu) ?_
    refine ev_goto 21 30 d_mo_shared_21 ?_
    refine ev_iret 30 d_mo_shared_30 rfl ?_
    exact ⟨_, _, _, rfl, rfl, by first | rw [if_pos c12] | rw [if_neg c12], rfl, rfl⟩

set_option maxHeartbeats 4000000 in
set_option maxRecDepth 100000 in
theorem mt_alike {l : Launch} {D : va_G} {tl : List (ClassId × FieldType)} {Z : (Nat → Prop) → State → Heap → Prop} {kI kZ : ClassId} {am : Nat → Nat} {F : Nat → Int32} {B : Nat → Nat → Int32} (hZ : ev_Zok Z) (t : Int32) (u : Int32) (ht : vp_in t 32) (hu : vp_in u 32) : MT (mo_π l D cl_A kI kZ tl Z) m_alike 0 0 [.ref (am 60), .int t, .int u] (mo_W mo_ci am kI kZ F B) (mo_qi am kI kZ (fun x F1 B1 => mo_bl x (mo_al B t.toNatClampNeg u.toNatClampNeg) ∧ F1 = F ∧ B1 = B)) := by
  refine mt_of mo_pl rfl (Nat.le_of_ble_eq_true rfl) (ev_eq (lv' := [some (.ref (am 60)), some (.int t), some (.int u), none]) ?_)
  refine ev_aload_0 0 d_mo_alike_0 ?_
  refine mo_getr 1 0 2 d_mo_alike_1 lk_7 ?_
  refine ev_iload_1 4 d_mo_alike_4 ?_
  refine mo_ald 5 0 2 d_mo_alike_5 (by first | exact ht | exact hu) ?_
  refine ev_istore_3 6 d_mo_alike_6 ?_
  refine ev_iload_3 7 d_mo_alike_7 ?_
  refine ev_aload_0 8 d_mo_alike_8 ?_
  refine mo_getr 9 0 2 d_mo_alike_9 lk_7 ?_
  refine ev_iload_2 12 d_mo_alike_12 ?_
  refine mo_ald 13 0 2 d_mo_alike_13 (by first | exact ht | exact hu) ?_
  refine ev_icmpne 14 105 d_mo_alike_14 (fun c14 => ?_) (fun c14 => ?_)
  · refine ev_iconst_0 105 d_mo_alike_105 ?_
    refine ev_zret 106 d_mo_alike_106 rfl ?_ ?_
    · rfl
    exact ⟨_, _, _, rfl, rfl, by unfold mo_bl mo_al; grind, rfl, rfl⟩
  · refine ev_iload_3 17 d_mo_alike_17 ?_
    refine ev_bipush (7) 18 d_mo_alike_18 (by decide) ?_
    refine ev_icmpne 20 38 d_mo_alike_20 (fun c20 => ?_) (fun c20 => ?_)
    · refine ev_iload_3 38 d_mo_alike_38 ?_
      refine ev_bipush (11) 39 d_mo_alike_39 (by decide) ?_
      refine ev_icmplt 41 59 d_mo_alike_41 (fun c41 => ?_) (fun c41 => ?_)
      · refine ev_iload_3 59 d_mo_alike_59 ?_
        refine ev_bipush (9) 60 d_mo_alike_60 (by decide) ?_
        refine ev_icmpne 62 80 d_mo_alike_62 (fun c62 => ?_) (fun c62 => ?_)
        · refine ev_iload_3 80 d_mo_alike_80 ?_
          refine ev_bipush (10) 81 d_mo_alike_81 (by decide) ?_
          refine ev_icmpne 83 101 d_mo_alike_83 (fun c83 => ?_) (fun c83 => ?_)
          · refine ev_iconst_1 101 d_mo_alike_101 ?_
            refine ev_goto 102 106 d_mo_alike_102 ?_
            refine ev_zret 106 d_mo_alike_106 rfl ?_ ?_
            · rfl
            exact ⟨_, _, _, rfl, rfl, by unfold mo_bl mo_al; grind, rfl, rfl⟩
          · refine ev_aload_0 86 d_mo_alike_86 ?_
            refine mo_getr 87 5 7 d_mo_alike_87 lk_25 ?_
            refine ev_iload_1 90 d_mo_alike_90 ?_
            refine mo_ald 91 5 7 d_mo_alike_91 (by first | exact ht | exact hu) ?_
            refine ev_aload_0 92 d_mo_alike_92 ?_
            refine mo_getr 93 5 7 d_mo_alike_93 lk_25 ?_
            refine ev_iload_2 96 d_mo_alike_96 ?_
            refine mo_ald 97 5 7 d_mo_alike_97 (by first | exact ht | exact hu) ?_
            refine ev_icmpgt 98 105 d_mo_alike_98 (fun c98 => ?_) (fun c98 => ?_)
            · refine ev_iconst_0 105 d_mo_alike_105 ?_
              refine ev_zret 106 d_mo_alike_106 rfl ?_ ?_
              · rfl
              exact ⟨_, _, _, rfl, rfl, by unfold mo_bl mo_al; grind, rfl, rfl⟩
            · refine ev_iconst_1 101 d_mo_alike_101 ?_
              refine ev_goto 102 106 d_mo_alike_102 ?_
              refine ev_zret 106 d_mo_alike_106 rfl ?_ ?_
              · rfl
              exact ⟨_, _, _, rfl, rfl, by unfold mo_bl mo_al; grind, rfl, rfl⟩
        · refine ev_aload_0 65 d_mo_alike_65 ?_
          refine mo_getr 66 5 7 d_mo_alike_66 lk_25 ?_
          refine ev_iload_1 69 d_mo_alike_69 ?_
          refine mo_ald 70 5 7 d_mo_alike_70 (by first | exact ht | exact hu) ?_
          refine ev_aload_0 71 d_mo_alike_71 ?_
          refine mo_getr 72 5 7 d_mo_alike_72 lk_25 ?_
          refine ev_iload_2 75 d_mo_alike_75 ?_
          refine mo_ald 76 5 7 d_mo_alike_76 (by first | exact ht | exact hu) ?_
          refine ev_icmplt 77 105 d_mo_alike_77 (fun c77 => ?_) (fun c77 => ?_)
          · refine ev_iconst_0 105 d_mo_alike_105 ?_
            refine ev_zret 106 d_mo_alike_106 rfl ?_ ?_
            · rfl
            exact ⟨_, _, _, rfl, rfl, by unfold mo_bl mo_al; grind, rfl, rfl⟩
          · refine ev_iload_3 80 d_mo_alike_80 ?_
            refine ev_bipush (10) 81 d_mo_alike_81 (by decide) ?_
            refine ev_icmpne 83 101 d_mo_alike_83 (fun c83 => ?_) (fun c83 => ?_)
            · refine ev_iconst_1 101 d_mo_alike_101 ?_
              refine ev_goto 102 106 d_mo_alike_102 ?_
              refine ev_zret 106 d_mo_alike_106 rfl ?_ ?_
              · rfl
              exact ⟨_, _, _, rfl, rfl, by unfold mo_bl mo_al; grind, rfl, rfl⟩
            · refine ev_aload_0 86 d_mo_alike_86 ?_
              refine mo_getr 87 5 7 d_mo_alike_87 lk_25 ?_
              refine ev_iload_1 90 d_mo_alike_90 ?_
              refine mo_ald 91 5 7 d_mo_alike_91 (by first | exact ht | exact hu) ?_
              refine ev_aload_0 92 d_mo_alike_92 ?_
              refine mo_getr 93 5 7 d_mo_alike_93 lk_25 ?_
              refine ev_iload_2 96 d_mo_alike_96 ?_
              refine mo_ald 97 5 7 d_mo_alike_97 (by first | exact ht | exact hu) ?_
              refine ev_icmpgt 98 105 d_mo_alike_98 (fun c98 => ?_) (fun c98 => ?_)
              · refine ev_iconst_0 105 d_mo_alike_105 ?_
                refine ev_zret 106 d_mo_alike_106 rfl ?_ ?_
                · rfl
                exact ⟨_, _, _, rfl, rfl, by unfold mo_bl mo_al; grind, rfl, rfl⟩
              · refine ev_iconst_1 101 d_mo_alike_101 ?_
                refine ev_goto 102 106 d_mo_alike_102 ?_
                refine ev_zret 106 d_mo_alike_106 rfl ?_ ?_
                · rfl
                exact ⟨_, _, _, rfl, rfl, by unfold mo_bl mo_al; grind, rfl, rfl⟩
      · refine ev_aload_0 44 d_mo_alike_44 ?_
        refine mo_getr 45 1 3 d_mo_alike_45 lk_13 ?_
        refine ev_iload_1 48 d_mo_alike_48 ?_
        refine mo_ald 49 1 3 d_mo_alike_49 (by first | exact ht | exact hu) ?_
        refine ev_aload_0 50 d_mo_alike_50 ?_
        refine mo_getr 51 1 3 d_mo_alike_51 lk_13 ?_
        refine ev_iload_2 54 d_mo_alike_54 ?_
        refine mo_ald 55 1 3 d_mo_alike_55 (by first | exact ht | exact hu) ?_
        refine ev_icmpne 56 105 d_mo_alike_56 (fun c56 => ?_) (fun c56 => ?_)
        · refine ev_iconst_0 105 d_mo_alike_105 ?_
          refine ev_zret 106 d_mo_alike_106 rfl ?_ ?_
          · rfl
          exact ⟨_, _, _, rfl, rfl, by unfold mo_bl mo_al; grind, rfl, rfl⟩
        · refine ev_iload_3 59 d_mo_alike_59 ?_
          refine ev_bipush (9) 60 d_mo_alike_60 (by decide) ?_
          refine ev_icmpne 62 80 d_mo_alike_62 (fun c62 => ?_) (fun c62 => ?_)
          · refine ev_iload_3 80 d_mo_alike_80 ?_
            refine ev_bipush (10) 81 d_mo_alike_81 (by decide) ?_
            refine ev_icmpne 83 101 d_mo_alike_83 (fun c83 => ?_) (fun c83 => ?_)
            · refine ev_iconst_1 101 d_mo_alike_101 ?_
              refine ev_goto 102 106 d_mo_alike_102 ?_
              refine ev_zret 106 d_mo_alike_106 rfl ?_ ?_
              · rfl
              exact ⟨_, _, _, rfl, rfl, by unfold mo_bl mo_al; grind, rfl, rfl⟩
            · refine ev_aload_0 86 d_mo_alike_86 ?_
              refine mo_getr 87 5 7 d_mo_alike_87 lk_25 ?_
              refine ev_iload_1 90 d_mo_alike_90 ?_
              refine mo_ald 91 5 7 d_mo_alike_91 (by first | exact ht | exact hu) ?_
              refine ev_aload_0 92 d_mo_alike_92 ?_
              refine mo_getr 93 5 7 d_mo_alike_93 lk_25 ?_
              refine ev_iload_2 96 d_mo_alike_96 ?_
              refine mo_ald 97 5 7 d_mo_alike_97 (by first | exact ht | exact hu) ?_
              refine ev_icmpgt 98 105 d_mo_alike_98 (fun c98 => ?_) (fun c98 => ?_)
              · refine ev_iconst_0 105 d_mo_alike_105 ?_
                refine ev_zret 106 d_mo_alike_106 rfl ?_ ?_
                · rfl
                exact ⟨_, _, _, rfl, rfl, by unfold mo_bl mo_al; grind, rfl, rfl⟩
              · refine ev_iconst_1 101 d_mo_alike_101 ?_
                refine ev_goto 102 106 d_mo_alike_102 ?_
                refine ev_zret 106 d_mo_alike_106 rfl ?_ ?_
                · rfl
                exact ⟨_, _, _, rfl, rfl, by unfold mo_bl mo_al; grind, rfl, rfl⟩
          · refine ev_aload_0 65 d_mo_alike_65 ?_
            refine mo_getr 66 5 7 d_mo_alike_66 lk_25 ?_
            refine ev_iload_1 69 d_mo_alike_69 ?_
            refine mo_ald 70 5 7 d_mo_alike_70 (by first | exact ht | exact hu) ?_
            refine ev_aload_0 71 d_mo_alike_71 ?_
            refine mo_getr 72 5 7 d_mo_alike_72 lk_25 ?_
            refine ev_iload_2 75 d_mo_alike_75 ?_
            refine mo_ald 76 5 7 d_mo_alike_76 (by first | exact ht | exact hu) ?_
            refine ev_icmplt 77 105 d_mo_alike_77 (fun c77 => ?_) (fun c77 => ?_)
            · refine ev_iconst_0 105 d_mo_alike_105 ?_
              refine ev_zret 106 d_mo_alike_106 rfl ?_ ?_
              · rfl
              exact ⟨_, _, _, rfl, rfl, by unfold mo_bl mo_al; grind, rfl, rfl⟩
            · refine ev_iload_3 80 d_mo_alike_80 ?_
              refine ev_bipush (10) 81 d_mo_alike_81 (by decide) ?_
              refine ev_icmpne 83 101 d_mo_alike_83 (fun c83 => ?_) (fun c83 => ?_)
              · refine ev_iconst_1 101 d_mo_alike_101 ?_
                refine ev_goto 102 106 d_mo_alike_102 ?_
                refine ev_zret 106 d_mo_alike_106 rfl ?_ ?_
                · rfl
                exact ⟨_, _, _, rfl, rfl, by unfold mo_bl mo_al; grind, rfl, rfl⟩
              · refine ev_aload_0 86 d_mo_alike_86 ?_
                refine mo_getr 87 5 7 d_mo_alike_87 lk_25 ?_
                refine ev_iload_1 90 d_mo_alike_90 ?_
                refine mo_ald 91 5 7 d_mo_alike_91 (by first | exact ht | exact hu) ?_
                refine ev_aload_0 92 d_mo_alike_92 ?_
                refine mo_getr 93 5 7 d_mo_alike_93 lk_25 ?_
                refine ev_iload_2 96 d_mo_alike_96 ?_
                refine mo_ald 97 5 7 d_mo_alike_97 (by first | exact ht | exact hu) ?_
                refine ev_icmpgt 98 105 d_mo_alike_98 (fun c98 => ?_) (fun c98 => ?_)
                · refine ev_iconst_0 105 d_mo_alike_105 ?_
                  refine ev_zret 106 d_mo_alike_106 rfl ?_ ?_
                  · rfl
                  exact ⟨_, _, _, rfl, rfl, by unfold mo_bl mo_al; grind, rfl, rfl⟩
                · refine ev_iconst_1 101 d_mo_alike_101 ?_
                  refine ev_goto 102 106 d_mo_alike_102 ?_
                  refine ev_zret 106 d_mo_alike_106 rfl ?_ ?_
                  · rfl
                  exact ⟨_, _, _, rfl, rfl, by unfold mo_bl mo_al; grind, rfl, rfl⟩
    · refine ev_aload_0 23 d_mo_alike_23 ?_
      refine mo_getr 24 1 3 d_mo_alike_24 lk_13 ?_
      refine ev_iload_1 27 d_mo_alike_27 ?_
      refine mo_ald 28 1 3 d_mo_alike_28 (by first | exact ht | exact hu) ?_
      refine ev_aload_0 29 d_mo_alike_29 ?_
      refine mo_getr 30 1 3 d_mo_alike_30 lk_13 ?_
      refine ev_iload_2 33 d_mo_alike_33 ?_
      refine mo_ald 34 1 3 d_mo_alike_34 (by first | exact ht | exact hu) ?_
      refine ev_icmpgt 35 105 d_mo_alike_35 (fun c35 => ?_) (fun c35 => ?_)
      · refine ev_iconst_0 105 d_mo_alike_105 ?_
        refine ev_zret 106 d_mo_alike_106 rfl ?_ ?_
        · rfl
        exact ⟨_, _, _, rfl, rfl, by unfold mo_bl mo_al; grind, rfl, rfl⟩
      · refine ev_iload_3 38 d_mo_alike_38 ?_
        refine ev_bipush (11) 39 d_mo_alike_39 (by decide) ?_
        refine ev_icmplt 41 59 d_mo_alike_41 (fun c41 => ?_) (fun c41 => ?_)
        · refine ev_iload_3 59 d_mo_alike_59 ?_
          refine ev_bipush (9) 60 d_mo_alike_60 (by decide) ?_
          refine ev_icmpne 62 80 d_mo_alike_62 (fun c62 => ?_) (fun c62 => ?_)
          · refine ev_iload_3 80 d_mo_alike_80 ?_
            refine ev_bipush (10) 81 d_mo_alike_81 (by decide) ?_
            refine ev_icmpne 83 101 d_mo_alike_83 (fun c83 => ?_) (fun c83 => ?_)
            · refine ev_iconst_1 101 d_mo_alike_101 ?_
              refine ev_goto 102 106 d_mo_alike_102 ?_
              refine ev_zret 106 d_mo_alike_106 rfl ?_ ?_
              · rfl
              exact ⟨_, _, _, rfl, rfl, by unfold mo_bl mo_al; grind, rfl, rfl⟩
            · refine ev_aload_0 86 d_mo_alike_86 ?_
              refine mo_getr 87 5 7 d_mo_alike_87 lk_25 ?_
              refine ev_iload_1 90 d_mo_alike_90 ?_
              refine mo_ald 91 5 7 d_mo_alike_91 (by first | exact ht | exact hu) ?_
              refine ev_aload_0 92 d_mo_alike_92 ?_
              refine mo_getr 93 5 7 d_mo_alike_93 lk_25 ?_
              refine ev_iload_2 96 d_mo_alike_96 ?_
              refine mo_ald 97 5 7 d_mo_alike_97 (by first | exact ht | exact hu) ?_
              refine ev_icmpgt 98 105 d_mo_alike_98 (fun c98 => ?_) (fun c98 => ?_)
              · refine ev_iconst_0 105 d_mo_alike_105 ?_
                refine ev_zret 106 d_mo_alike_106 rfl ?_ ?_
                · rfl
                exact ⟨_, _, _, rfl, rfl, by unfold mo_bl mo_al; grind, rfl, rfl⟩
              · refine ev_iconst_1 101 d_mo_alike_101 ?_
                refine ev_goto 102 106 d_mo_alike_102 ?_
                refine ev_zret 106 d_mo_alike_106 rfl ?_ ?_
                · rfl
                exact ⟨_, _, _, rfl, rfl, by unfold mo_bl mo_al; grind, rfl, rfl⟩
          · refine ev_aload_0 65 d_mo_alike_65 ?_
            refine mo_getr 66 5 7 d_mo_alike_66 lk_25 ?_
            refine ev_iload_1 69 d_mo_alike_69 ?_
            refine mo_ald 70 5 7 d_mo_alike_70 (by first | exact ht | exact hu) ?_
            refine ev_aload_0 71 d_mo_alike_71 ?_
            refine mo_getr 72 5 7 d_mo_alike_72 lk_25 ?_
            refine ev_iload_2 75 d_mo_alike_75 ?_
            refine mo_ald 76 5 7 d_mo_alike_76 (by first | exact ht | exact hu) ?_
            refine ev_icmplt 77 105 d_mo_alike_77 (fun c77 => ?_) (fun c77 => ?_)
            · refine ev_iconst_0 105 d_mo_alike_105 ?_
              refine ev_zret 106 d_mo_alike_106 rfl ?_ ?_
              · rfl
              exact ⟨_, _, _, rfl, rfl, by unfold mo_bl mo_al; grind, rfl, rfl⟩
            · refine ev_iload_3 80 d_mo_alike_80 ?_
              refine ev_bipush (10) 81 d_mo_alike_81 (by decide) ?_
              refine ev_icmpne 83 101 d_mo_alike_83 (fun c83 => ?_) (fun c83 => ?_)
              · refine ev_iconst_1 101 d_mo_alike_101 ?_
                refine ev_goto 102 106 d_mo_alike_102 ?_
                refine ev_zret 106 d_mo_alike_106 rfl ?_ ?_
                · rfl
                exact ⟨_, _, _, rfl, rfl, by unfold mo_bl mo_al; grind, rfl, rfl⟩
              · refine ev_aload_0 86 d_mo_alike_86 ?_
                refine mo_getr 87 5 7 d_mo_alike_87 lk_25 ?_
                refine ev_iload_1 90 d_mo_alike_90 ?_
                refine mo_ald 91 5 7 d_mo_alike_91 (by first | exact ht | exact hu) ?_
                refine ev_aload_0 92 d_mo_alike_92 ?_
                refine mo_getr 93 5 7 d_mo_alike_93 lk_25 ?_
                refine ev_iload_2 96 d_mo_alike_96 ?_
                refine mo_ald 97 5 7 d_mo_alike_97 (by first | exact ht | exact hu) ?_
                refine ev_icmpgt 98 105 d_mo_alike_98 (fun c98 => ?_) (fun c98 => ?_)
                · refine ev_iconst_0 105 d_mo_alike_105 ?_
                  refine ev_zret 106 d_mo_alike_106 rfl ?_ ?_
                  · rfl
                  exact ⟨_, _, _, rfl, rfl, by unfold mo_bl mo_al; grind, rfl, rfl⟩
                · refine ev_iconst_1 101 d_mo_alike_101 ?_
                  refine ev_goto 102 106 d_mo_alike_102 ?_
                  refine ev_zret 106 d_mo_alike_106 rfl ?_ ?_
                  · rfl
                  exact ⟨_, _, _, rfl, rfl, by unfold mo_bl mo_al; grind, rfl, rfl⟩
        · refine ev_aload_0 44 d_mo_alike_44 ?_
          refine mo_getr 45 1 3 d_mo_alike_45 lk_13 ?_
          refine ev_iload_1 48 d_mo_alike_48 ?_
          refine mo_ald 49 1 3 d_mo_alike_49 (by first | exact ht | exact hu) ?_
          refine ev_aload_0 50 d_mo_alike_50 ?_
          refine mo_getr 51 1 3 d_mo_alike_51 lk_13 ?_
          refine ev_iload_2 54 d_mo_alike_54 ?_
          refine mo_ald 55 1 3 d_mo_alike_55 (by first | exact ht | exact hu) ?_
          refine ev_icmpne 56 105 d_mo_alike_56 (fun c56 => ?_) (fun c56 => ?_)
          · refine ev_iconst_0 105 d_mo_alike_105 ?_
            refine ev_zret 106 d_mo_alike_106 rfl ?_ ?_
            · rfl
            exact ⟨_, _, _, rfl, rfl, by unfold mo_bl mo_al; grind, rfl, rfl⟩
          · refine ev_iload_3 59 d_mo_alike_59 ?_
            refine ev_bipush (9) 60 d_mo_alike_60 (by decide) ?_
            refine ev_icmpne 62 80 d_mo_alike_62 (fun c62 => ?_) (fun c62 => ?_)
            · refine ev_iload_3 80 d_mo_alike_80 ?_
              refine ev_bipush (10) 81 d_mo_alike_81 (by decide) ?_
              refine ev_icmpne 83 101 d_mo_alike_83 (fun c83 => ?_) (fun c83 => ?_)
              · refine ev_iconst_1 101 d_mo_alike_101 ?_
                refine ev_goto 102 106 d_mo_alike_102 ?_
                refine ev_zret 106 d_mo_alike_106 rfl ?_ ?_
                · rfl
                exact ⟨_, _, _, rfl, rfl, by unfold mo_bl mo_al; grind, rfl, rfl⟩
              · refine ev_aload_0 86 d_mo_alike_86 ?_
                refine mo_getr 87 5 7 d_mo_alike_87 lk_25 ?_
                refine ev_iload_1 90 d_mo_alike_90 ?_
                refine mo_ald 91 5 7 d_mo_alike_91 (by first | exact ht | exact hu) ?_
                refine ev_aload_0 92 d_mo_alike_92 ?_
                refine mo_getr 93 5 7 d_mo_alike_93 lk_25 ?_
                refine ev_iload_2 96 d_mo_alike_96 ?_
                refine mo_ald 97 5 7 d_mo_alike_97 (by first | exact ht | exact hu) ?_
                refine ev_icmpgt 98 105 d_mo_alike_98 (fun c98 => ?_) (fun c98 => ?_)
                · refine ev_iconst_0 105 d_mo_alike_105 ?_
                  refine ev_zret 106 d_mo_alike_106 rfl ?_ ?_
                  · rfl
                  exact ⟨_, _, _, rfl, rfl, by unfold mo_bl mo_al; grind, rfl, rfl⟩
                · refine ev_iconst_1 101 d_mo_alike_101 ?_
                  refine ev_goto 102 106 d_mo_alike_102 ?_
                  refine ev_zret 106 d_mo_alike_106 rfl ?_ ?_
                  · rfl
                  exact ⟨_, _, _, rfl, rfl, by unfold mo_bl mo_al; grind, rfl, rfl⟩
            · refine ev_aload_0 65 d_mo_alike_65 ?_
              refine mo_getr 66 5 7 d_mo_alike_66 lk_25 ?_
              refine ev_iload_1 69 d_mo_alike_69 ?_
              refine mo_ald 70 5 7 d_mo_alike_70 (by first | exact ht | exact hu) ?_
              refine ev_aload_0 71 d_mo_alike_71 ?_
              refine mo_getr 72 5 7 d_mo_alike_72 lk_25 ?_
              refine ev_iload_2 75 d_mo_alike_75 ?_
              refine mo_ald 76 5 7 d_mo_alike_76 (by first | exact ht | exact hu) ?_
              refine ev_icmplt 77 105 d_mo_alike_77 (fun c77 => ?_) (fun c77 => ?_)
              · refine ev_iconst_0 105 d_mo_alike_105 ?_
                refine ev_zret 106 d_mo_alike_106 rfl ?_ ?_
                · rfl
                exact ⟨_, _, _, rfl, rfl, by unfold mo_bl mo_al; grind, rfl, rfl⟩
              · refine ev_iload_3 80 d_mo_alike_80 ?_
                refine ev_bipush (10) 81 d_mo_alike_81 (by decide) ?_
                refine ev_icmpne 83 101 d_mo_alike_83 (fun c83 => ?_) (fun c83 => ?_)
                · refine ev_iconst_1 101 d_mo_alike_101 ?_
                  refine ev_goto 102 106 d_mo_alike_102 ?_
                  refine ev_zret 106 d_mo_alike_106 rfl ?_ ?_
                  · rfl
                  exact ⟨_, _, _, rfl, rfl, by unfold mo_bl mo_al; grind, rfl, rfl⟩
                · refine ev_aload_0 86 d_mo_alike_86 ?_
                  refine mo_getr 87 5 7 d_mo_alike_87 lk_25 ?_
                  refine ev_iload_1 90 d_mo_alike_90 ?_
                  refine mo_ald 91 5 7 d_mo_alike_91 (by first | exact ht | exact hu) ?_
                  refine ev_aload_0 92 d_mo_alike_92 ?_
                  refine mo_getr 93 5 7 d_mo_alike_93 lk_25 ?_
                  refine ev_iload_2 96 d_mo_alike_96 ?_
                  refine mo_ald 97 5 7 d_mo_alike_97 (by first | exact ht | exact hu) ?_
                  refine ev_icmpgt 98 105 d_mo_alike_98 (fun c98 => ?_) (fun c98 => ?_)
                  · refine ev_iconst_0 105 d_mo_alike_105 ?_
                    refine ev_zret 106 d_mo_alike_106 rfl ?_ ?_
                    · rfl
                    exact ⟨_, _, _, rfl, rfl, by unfold mo_bl mo_al; grind, rfl, rfl⟩
                  · refine ev_iconst_1 101 d_mo_alike_101 ?_
                    refine ev_goto 102 106 d_mo_alike_102 ?_
                    refine ev_zret 106 d_mo_alike_106 rfl ?_ ?_
                    · rfl
                    exact ⟨_, _, _, rfl, rfl, by unfold mo_bl mo_al; grind, rfl, rfl⟩

set_option maxHeartbeats 4000000 in
set_option maxRecDepth 100000 in
theorem mt_await {l : Launch} {D : va_G} {tl : List (ClassId × FieldType)} {Z : (Nat → Prop) → State → Heap → Prop} {kI kZ : ClassId} {am : Nat → Nat} {F : Nat → Int32} {B : Nat → Nat → Int32} (hZ : ev_Zok Z) (t : Int32) (u : Int32) (mn : Int32) (pl : Int32) (ab : Int32) (i : Int32) (hw : vp_in (F 36) 64) : MT (mo_π l D cl_A kI kZ tl Z) m_await 0 0 [.ref (am 60), .int t, .int u, .int mn, .int pl, .int ab, .int i] (mo_W mo_ci am kI kZ F B) (mo_qv am kI kZ (fun F1 B1 => F1 = upd F 36 (F 36 + 1) ∧ B1 = mo_aw B (F 36).toNatClampNeg t u mn pl ab i)) := by
  refine mt_of mo_pl rfl (Nat.le_of_ble_eq_true rfl) (ev_eq (lv' := [some (.ref (am 60)), some (.int t), some (.int u), some (.int mn), some (.int pl), some (.int ab), some (.int i)]) ?_)
  refine ev_aload_0 0 d_mo_await_0 ?_
  refine mo_getr 1 26 37 d_mo_await_1 lk_93 ?_
  refine ev_aload_0 4 d_mo_await_4 ?_
  refine mo_geti 5 36 d_mo_await_5 lk_181 ?_
  refine ev_iload_1 8 d_mo_await_8 ?_
  refine mo_ast 9 26 37 d_mo_await_9 (by exact hw) ?_
  refine ev_aload_0 10 d_mo_await_10 ?_
  refine mo_getr 11 27 38 d_mo_await_11 lk_96 ?_
  refine ev_aload_0 14 d_mo_await_14 ?_
  refine mo_geti 15 36 d_mo_await_15 lk_181 ?_
  refine ev_iload_2 18 d_mo_await_18 ?_
  refine mo_ast 19 27 38 d_mo_await_19 (by exact hw) ?_
  refine ev_aload_0 20 d_mo_await_20 ?_
  refine mo_getr 21 28 39 d_mo_await_21 lk_99 ?_
  refine ev_aload_0 24 d_mo_await_24 ?_
  refine mo_geti 25 36 d_mo_await_25 lk_181 ?_
  refine ev_iload_3 28 d_mo_await_28 ?_
  refine mo_ast 29 28 39 d_mo_await_29 (by exact hw) ?_
  refine ev_aload_0 30 d_mo_await_30 ?_
  refine mo_getr 31 29 40 d_mo_await_31 lk_102 ?_
  refine ev_aload_0 34 d_mo_await_34 ?_
  refine mo_geti 35 36 d_mo_await_35 lk_181 ?_
  refine ev_iload_4 38 d_mo_await_38 ?_
  refine mo_ast 40 29 40 d_mo_await_40 (by exact hw) ?_
  refine ev_aload_0 41 d_mo_await_41 ?_
  refine mo_getr 42 30 41 d_mo_await_42 lk_105 ?_
  refine ev_aload_0 45 d_mo_await_45 ?_
  refine mo_geti 46 36 d_mo_await_46 lk_181 ?_
  refine ev_iload_5 49 d_mo_await_49 ?_
  refine mo_ast 51 30 41 d_mo_await_51 (by exact hw) ?_
  refine ev_aload_0 52 d_mo_await_52 ?_
  refine mo_getr 53 31 42 d_mo_await_53 lk_108 ?_
  refine ev_aload_0 56 d_mo_await_56 ?_
  refine mo_geti 57 36 d_mo_await_57 lk_181 ?_
  refine ev_iload_6 60 d_mo_await_60 ?_
  refine mo_ast 62 31 42 d_mo_await_62 (by exact hw) ?_
  refine ev_aload_0 63 d_mo_await_63 ?_
  refine ev_dup_a 64 d_mo_await_64 ?_
  refine mo_geti 65 36 d_mo_await_65 lk_181 ?_
  refine ev_iconst_1 68 d_mo_await_68 ?_
  refine ev_iadd 69 d_mo_await_69 ?_
  refine mo_puti 70 36 d_mo_await_70 lp_181 ?_
  refine ev_vret 73 d_mo_await_73 rfl ?_
  exact ⟨_, _, rfl, rfl, rfl, rfl⟩

set_option maxHeartbeats 4000000 in
set_option maxRecDepth 100000 in
theorem mt_fails {l : Launch} {D : va_G} {tl : List (ClassId × FieldType)} {Z : (Nat → Prop) → State → Heap → Prop} {kI kZ : ClassId} {am : Nat → Nat} {F : Nat → Int32} {B : Nat → Nat → Int32} (hZ : ev_Zok Z) (c : Int32) (p : Int32)  : MT (mo_π l D cl_A kI kZ tl Z) m_fails 0 0 [.ref (am 60), .int c, .int p] (mo_W mo_ci am kI kZ F B) (mo_qv am kI kZ (fun F1 B1 => F1 = mo_fl F c p ∧ B1 = B)) := by
  refine mt_of mo_pl rfl (Nat.le_of_ble_eq_true rfl) (ev_eq (lv' := [some (.ref (am 60)), some (.int c), some (.int p)]) ?_)
  refine ev_aload_0 0 d_mo_fails_0 ?_
  refine mo_geti 1 54 d_mo_fails_1 lk_224 ?_
  refine ev_ifne 4 17 d_mo_fails_4 (fun c4 => ?_) (fun c4 => ?_)
  · refine ev_vret 17 d_mo_fails_17 rfl ?_
    exact ⟨_, _, rfl, rfl, by first | rw [mo_fl, if_pos c4] | rw [mo_fl, if_neg c4], rfl⟩
  · refine ev_aload_0 7 d_mo_fails_7 ?_
    refine ev_iload_1 8 d_mo_fails_8 ?_
    refine mo_puti 9 54 d_mo_fails_9 lp_224 ?_
    refine ev_aload_0 12 d_mo_fails_12 ?_
    refine ev_iload_2 13 d_mo_fails_13 ?_
    refine mo_puti 14 55 d_mo_fails_14 lp_227 ?_
    refine ev_vret 17 d_mo_fails_17 rfl ?_
    exact ⟨_, _, rfl, rfl, by first | rw [mo_fl, if_pos c4] | rw [mo_fl, if_neg c4], rfl⟩

set_option maxHeartbeats 4000000 in
set_option maxRecDepth 100000 in
theorem mt_push {l : Launch} {D : va_G} {tl : List (ClassId × FieldType)} {Z : (Nat → Prop) → State → Heap → Prop} {kI kZ : ClassId} {am : Nat → Nat} {F : Nat → Int32} {B : Nat → Nat → Int32} (hZ : ev_Zok Z) (i : Int32) (f : Int32) (p : Int32) (hl : vp_in (F 29) 6) (hi : vp_in i 6) : MT (mo_π l D cl_A kI kZ tl Z) m_push 0 0 [.ref (am 60), .int i, .int f, .int p] (mo_W mo_ci am kI kZ F B) (mo_qv am kI kZ (fun F1 B1 => F1 = upd F 29 (F 29 + 1) ∧ B1 = va_up (va_up (va_up (va_up B 30 (upd (B 30) (F 29).toNatClampNeg i)) 31 (upd (B 31) (F 29).toNatClampNeg f)) 32 (upd (B 32) (F 29).toNatClampNeg p)) 15 (upd (B 15) i.toNatClampNeg 1))) := by
  refine mt_of mo_pl rfl (Nat.le_of_ble_eq_true rfl) (ev_eq (lv' := [some (.ref (am 60)), some (.int i), some (.int f), some (.int p)]) ?_)
  refine ev_aload_0 0 d_mo_push_0 ?_
  refine mo_getr 1 23 30 d_mo_push_1 lk_80 ?_
  refine ev_aload_0 4 d_mo_push_4 ?_
  refine mo_geti 5 29 d_mo_push_5 lk_208 ?_
  refine ev_iload_1 8 d_mo_push_8 ?_
  refine mo_ast 9 23 30 d_mo_push_9 (by first | exact hl | exact hi) ?_
  refine ev_aload_0 10 d_mo_push_10 ?_
  refine mo_getr 11 24 31 d_mo_push_11 lk_83 ?_
  refine ev_aload_0 14 d_mo_push_14 ?_
  refine mo_geti 15 29 d_mo_push_15 lk_208 ?_
  refine ev_iload_2 18 d_mo_push_18 ?_
  refine mo_ast 19 24 31 d_mo_push_19 (by first | exact hl | exact hi) ?_
  refine ev_aload_0 20 d_mo_push_20 ?_
  refine mo_getr 21 25 32 d_mo_push_21 lk_86 ?_
  refine ev_aload_0 24 d_mo_push_24 ?_
  refine mo_geti 25 29 d_mo_push_25 lk_208 ?_
  refine ev_iload_3 28 d_mo_push_28 ?_
  refine mo_ast 29 25 32 d_mo_push_29 (by first | exact hl | exact hi) ?_
  refine ev_aload_0 30 d_mo_push_30 ?_
  refine ev_dup_a 31 d_mo_push_31 ?_
  refine mo_geti 32 29 d_mo_push_32 lk_208 ?_
  refine ev_iconst_1 35 d_mo_push_35 ?_
  refine ev_iadd 36 d_mo_push_36 ?_
  refine mo_puti 37 29 d_mo_push_37 lp_208 ?_
  refine ev_aload_0 40 d_mo_push_40 ?_
  refine mo_getr 41 11 15 d_mo_push_41 lk_43 ?_
  refine ev_iload_1 44 d_mo_push_44 ?_
  refine ev_iconst_1 45 d_mo_push_45 ?_
  refine mo_ast 46 11 15 d_mo_push_46 (by first | exact hl | exact hi) ?_
  refine ev_vret 47 d_mo_push_47 rfl ?_
  exact ⟨_, _, rfl, rfl, rfl, rfl⟩

set_option maxHeartbeats 4000000 in
set_option maxRecDepth 100000 in
theorem mt_passed {l : Launch} {D : va_G} {tl : List (ClassId × FieldType)} {Z : (Nat → Prop) → State → Heap → Prop} {kI kZ : ClassId} {am : Nat → Nat} {F : Nat → Int32} {B : Nat → Nat → Int32} (hZ : ev_Zok Z) (hl : ¬ F 29 = 0 → vp_in (F 29 - 1) 6) : MT (mo_π l D cl_A kI kZ tl Z) m_passed 0 0 [.ref (am 60)] (mo_W mo_ci am kI kZ F B) (mo_qi am kI kZ (fun x F1 B1 => x = (if F 29 = 0 then -1 else B 32 (F 29 - 1).toNatClampNeg) ∧ F1 = upd F 0 0 ∧ B1 = B)) := by
  refine mt_of mo_pl rfl (Nat.le_of_ble_eq_true rfl) (ev_eq (lv' := [some (.ref (am 60))]) ?_)
  refine ev_aload_0 0 d_mo_passed_0 ?_
  refine ev_iconst_0 1 d_mo_passed_1 ?_
  refine mo_puti 2 0 d_mo_passed_2 lp_141 ?_
  refine ev_aload_0 5 d_mo_passed_5 ?_
  refine mo_geti 6 29 d_mo_passed_6 lk_208 ?_
  refine ev_ifne 9 16 d_mo_passed_9 (fun c9 => ?_) (fun c9 => ?_)
  · refine ev_aload_0 16 d_mo_passed_16 ?_
    refine mo_getr 17 25 32 d_mo_passed_17 lk_86 ?_
    refine ev_aload_0 20 d_mo_passed_20 ?_
    refine mo_geti 21 29 d_mo_passed_21 lk_208 ?_
    refine ev_iconst_1 24 d_mo_passed_24 ?_
    refine ev_isub 25 d_mo_passed_25 ?_
    refine mo_ald 26 25 32 d_mo_passed_26 (by exact hl c9) ?_
    refine ev_iret 27 d_mo_passed_27 rfl ?_
    exact ⟨_, _, _, rfl, rfl, by first | exact (if_pos c9).symm | exact (if_neg c9).symm, rfl, rfl⟩
  · refine ev_iconst_m1 12 d_mo_passed_12 ?_
    refine ev_goto 13 27 d_mo_passed_13 ?_
    refine ev_iret 27 d_mo_passed_27 rfl ?_
    exact ⟨_, _, _, rfl, rfl, by first | exact (if_pos c9).symm | exact (if_neg c9).symm, rfl, rfl⟩

set_option maxHeartbeats 4000000 in
set_option maxRecDepth 100000 in
theorem mt_depth {l : Launch} {D : va_G} {tl : List (ClassId × FieldType)} {Z : (Nat → Prop) → State → Heap → Prop} {kI kZ : ClassId} {am : Nat → Nat} {F : Nat → Int32} {B : Nat → Nat → Int32} (hZ : ev_Zok Z)  : MT (mo_π l D cl_A kI kZ tl Z) m_depth 0 0 [.ref (am 60)] (mo_W mo_ci am kI kZ F B) (mo_qi am kI kZ (fun x F1 B1 => x = F 29 ∧ F1 = upd F 0 0 ∧ B1 = B)) := by
  refine mt_of mo_pl rfl (Nat.le_of_ble_eq_true rfl) (ev_eq (lv' := [some (.ref (am 60))]) ?_)
  refine ev_aload_0 0 d_mo_depth_0 ?_
  refine ev_iconst_0 1 d_mo_depth_1 ?_
  refine mo_puti 2 0 d_mo_depth_2 lp_141 ?_
  refine ev_aload_0 5 d_mo_depth_5 ?_
  refine mo_geti 6 29 d_mo_depth_6 lk_208 ?_
  refine ev_iret 9 d_mo_depth_9 rfl ?_
  exact ⟨_, _, _, rfl, rfl, rfl, rfl, rfl⟩

set_option maxHeartbeats 4000000 in
set_option maxRecDepth 100000 in
theorem mt_level {l : Launch} {D : va_G} {tl : List (ClassId × FieldType)} {Z : (Nat → Prop) → State → Heap → Prop} {kI kZ : ClassId} {am : Nat → Nat} {F : Nat → Int32} {B : Nat → Nat → Int32} (hZ : ev_Zok Z) (k : Int32) (hb : ¬ k < 0 → ¬ F 29 ≤ k → vp_in k 6) : MT (mo_π l D cl_A kI kZ tl Z) m_level 0 0 [.ref (am 60), .int k] (mo_W mo_ci am kI kZ F B) (mo_qi am kI kZ (fun x F1 B1 => x = (if k < 0 ∨ F 29 ≤ k then -1 else B 30 k.toNatClampNeg) ∧ F1 = upd F 0 0 ∧ B1 = B)) := by
  refine mt_of mo_pl rfl (Nat.le_of_ble_eq_true rfl) (ev_eq (lv' := [some (.ref (am 60)), some (.int k)]) ?_)
  refine ev_aload_0 0 d_mo_level_0 ?_
  refine ev_iconst_0 1 d_mo_level_1 ?_
  refine mo_puti 2 0 d_mo_level_2 lp_141 ?_
  refine ev_iload_1 5 d_mo_level_5 ?_
  refine ev_iflt 6 26 d_mo_level_6 (fun c6 => ?_) (fun c6 => ?_)
  · refine ev_iconst_m1 26 d_mo_level_26 ?_
    refine ev_iret 27 d_mo_level_27 rfl ?_
    exact ⟨_, _, _, rfl, rfl, by first | exact (if_pos (Or.inl c6)).symm | exact (if_pos (Or.inr c14)).symm | exact (if_neg (fun z => z.elim c6 c14)).symm, rfl, rfl⟩
  · refine ev_iload_1 9 d_mo_level_9 ?_
    refine ev_aload_0 10 d_mo_level_10 ?_
    refine mo_geti 11 29 d_mo_level_11 lk_208 ?_
    refine ev_icmpge 14 26 d_mo_level_14 (fun c14 => ?_) (fun c14 => ?_)
    · refine ev_iconst_m1 26 d_mo_level_26 ?_
      refine ev_iret 27 d_mo_level_27 rfl ?_
      exact ⟨_, _, _, rfl, rfl, by first | exact (if_pos (Or.inl c6)).symm | exact (if_pos (Or.inr c14)).symm | exact (if_neg (fun z => z.elim c6 c14)).symm, rfl, rfl⟩
    · refine ev_aload_0 17 d_mo_level_17 ?_
      refine mo_getr 18 23 30 d_mo_level_18 lk_80 ?_
      refine ev_iload_1 21 d_mo_level_21 ?_
      refine mo_ald 22 23 30 d_mo_level_22 (by exact hb c6 c14) ?_
      refine ev_goto 23 27 d_mo_level_23 ?_
      refine ev_iret 27 d_mo_level_27 rfl ?_
      exact ⟨_, _, _, rfl, rfl, by first | exact (if_pos (Or.inl c6)).symm | exact (if_pos (Or.inr c14)).symm | exact (if_neg (fun z => z.elim c6 c14)).symm, rfl, rfl⟩

set_option maxHeartbeats 4000000 in
set_option maxRecDepth 100000 in
theorem mt_byteAt {l : Launch} {D : va_G} {tl : List (ClassId × FieldType)} {Z : (Nat → Prop) → State → Heap → Prop} {kI kZ : ClassId} {am : Nat → Nat} {F : Nat → Int32} {B : Nat → Nat → Int32} (hZ : ev_Zok Z) (i : Int32) (p : Int32) (hb : ¬ p < 0 → ¬ 255 < p → vp_in (256 * i + p) 1536) : MT (mo_π l D cl_A kI kZ tl Z) m_byteAt 0 0 [.ref (am 60), .int i, .int p] (mo_W mo_ci am kI kZ F B) (mo_qi am kI kZ (fun x F1 B1 => ((0 < F 54 ∧ x = 0 ∧ F1 = F) ∨ (¬ 0 < F 54 ∧ (p < 0 ∨ 255 < p) ∧ x = 0 ∧ F1 = mo_fl F 1 p) ∨ (¬ 0 < F 54 ∧ ¬ p < 0 ∧ ¬ 255 < p ∧ x = B 13 (256 * i + p).toNatClampNeg ∧ F1 = F)) ∧ B1 = B)) := by
  refine mt_of mo_pl rfl (Nat.le_of_ble_eq_true rfl) (ev_eq (lv' := [some (.ref (am 60)), some (.int i), some (.int p)]) ?_)
  refine ev_aload_0 0 d_mo_byteAt_0 ?_
  refine mo_geti 1 54 d_mo_byteAt_1 lk_224 ?_
  refine ev_ifle 4 9 d_mo_byteAt_4 (fun c4 => ?_) (fun c4 => ?_)
  · refine ev_iload_2 9 d_mo_byteAt_9 ?_
    refine ev_iflt 10 20 d_mo_byteAt_10 (fun c10 => ?_) (fun c10 => ?_)
    · refine ev_aload_0 20 d_mo_byteAt_20 ?_
      refine ev_iconst_1 21 d_mo_byteAt_21 ?_
      refine ev_iload_2 22 d_mo_byteAt_22 ?_
      refine mo_callv2 23 d_mo_byteAt_23 hZ kc_230 (mt_fails hZ 1 p) (fun F1 B1 h => ?_)
      obtain ⟨rfl, rfl⟩ := h
      refine ev_iconst_0 26 d_mo_byteAt_26 ?_
      refine ev_iret 27 d_mo_byteAt_27 rfl ?_
      exact ⟨_, _, _, rfl, rfl, Or.inr (Or.inl ⟨Int32.not_lt.mpr c4, by first | exact Or.inl c10 | exact Or.inr (Int32.not_le.mp c17), rfl, rfl⟩), rfl⟩
    · refine ev_iload_2 13 d_mo_byteAt_13 ?_
      refine ev_sipush (255) 14 d_mo_byteAt_14 (by decide) ?_
      refine ev_icmple 17 28 d_mo_byteAt_17 (fun c17 => ?_) (fun c17 => ?_)
      · refine ev_aload_0 28 d_mo_byteAt_28 ?_
        refine mo_getr 29 9 13 d_mo_byteAt_29 lk_37 ?_
        refine ev_sipush (256) 32 d_mo_byteAt_32 (by decide) ?_
        refine ev_iload_1 35 d_mo_byteAt_35 ?_
        refine ev_imul 36 d_mo_byteAt_36 ?_
        refine ev_iload_2 37 d_mo_byteAt_37 ?_
        refine ev_iadd 38 d_mo_byteAt_38 ?_
        refine mo_ald 39 9 13 d_mo_byteAt_39 (by exact hb c10 (Int32.not_lt.mpr c17)) ?_
        refine ev_iret 40 d_mo_byteAt_40 rfl ?_
        exact ⟨_, _, _, rfl, rfl, Or.inr (Or.inr ⟨Int32.not_lt.mpr c4, c10, Int32.not_lt.mpr c17, rfl, rfl⟩), rfl⟩
      · refine ev_aload_0 20 d_mo_byteAt_20 ?_
        refine ev_iconst_1 21 d_mo_byteAt_21 ?_
        refine ev_iload_2 22 d_mo_byteAt_22 ?_
        refine mo_callv2 23 d_mo_byteAt_23 hZ kc_230 (mt_fails hZ 1 p) (fun F1 B1 h => ?_)
        obtain ⟨rfl, rfl⟩ := h
        refine ev_iconst_0 26 d_mo_byteAt_26 ?_
        refine ev_iret 27 d_mo_byteAt_27 rfl ?_
        exact ⟨_, _, _, rfl, rfl, Or.inr (Or.inl ⟨Int32.not_lt.mpr c4, by first | exact Or.inl c10 | exact Or.inr (Int32.not_le.mp c17), rfl, rfl⟩), rfl⟩
  · refine ev_iconst_0 7 d_mo_byteAt_7 ?_
    refine ev_iret 8 d_mo_byteAt_8 rfl ?_
    exact ⟨_, _, _, rfl, rfl, Or.inl ⟨Int32.not_le.mp c4, rfl, rfl⟩, rfl⟩
