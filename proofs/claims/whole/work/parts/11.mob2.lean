/-- the lowest handle not in use, 0 if there is none: n of the 16 are looked at, from the highest down -/
def mo_fh (u : Nat → Int32) (b : Nat) : Nat → Nat
  | 0 => 0
  | n + 1 => if u (b + (16 - n)) = 0 then 16 - n else mo_fh u b n
/-- how many of the first n handles are in use -/
def mo_iu (u : Nat → Int32) (b : Nat) : Nat → Nat
  | 0 => 0
  | n + 1 => if u (b + (n + 1)) = 0 then mo_iu u b n else mo_iu u b n + 1
/-- how many of the first n handles are lent from x, beside p -/
def mo_ln (B : Nat → Nat → Int32) (x p : Int32) : Nat → Int32
  | 0 => p
  | n + 1 => if ¬ B 16 n = 0 ∧ B 18 n = 0 ∧ B 19 n = x then mo_ln B x p n + 1 else mo_ln B x p n
theorem mo_r0 {x : Int32} (h : mo_bl x (¬ (0 : Int32) ≤ 0)) : x = 0 := by
  rcases h with ⟨-, h⟩ | ⟨h, -⟩
  · exact absurd (by decide) h
  · exact h
theorem mo_rk {x c : Int32} (h : mo_bl x (¬ c ≤ 0)) (hc : ¬ c ≤ 0) : ¬ x = 0 := by
  rcases h with ⟨rfl, -⟩ | ⟨-, h⟩
  · decide
  · exact absurd hc h

set_option maxHeartbeats 4000000 in
set_option maxRecDepth 100000 in
theorem mt_freeHandle {l : Launch} {D : va_G} {tl : List (ClassId × FieldType)} {Z : (Nat → Prop) → State → Heap → Prop} {kI kZ : ClassId} {am : Nat → Nat} {F : Nat → Int32} {B : Nat → Nat → Int32} (hZ : ev_Zok Z) (I : Nat) (hI : I < 6) : MT (mo_π l D cl_A kI kZ tl Z) m_freeHandle 0 0 [.ref (am 60), .int (nI I)] (mo_W mo_ci am kI kZ F B) (mo_qi am kI kZ (fun x F1 B1 => x = nI (mo_fh (B 16) (17 * I) 16) ∧ F1 = F ∧ B1 = B)) := by
  refine mt_of mo_pl rfl (Nat.le_of_ble_eq_true rfl) (ev_eq (lv' := [some (.ref (am 60)), some (.int (nI I)), none, none]) ?_)
  have L5 : ∀ m n : Nat, 16 - n < m → n ≤ 16 → EV (mo_π l D cl_A kI kZ tl Z) m_freeHandle (ev_E (mo_π l D cl_A kI kZ tl Z) 0 0 (mo_qi am kI kZ (fun x F1 B1 => x = nI (mo_fh (B 16) (17 * I) 16) ∧ F1 = F ∧ B1 = B))) 0 0 5 [some (.ref (am 60)), some (.int (nI I)), some (.int (nI (mo_fh (B 16) (17 * I) n))), some (.int (nI (16 - n)))] [] (mo_W mo_ci am kI kZ F B) := by
    intro m
    induction m with
    | zero => intro n h; omega
    | succ m ih =>
      intro n hm hn
      refine ev_iload_3 5 d_mo_freeHandle_5 ?_
      refine ev_iconst_1 6 d_mo_freeHandle_6 ?_
      refine ev_icmplt 7 36 d_mo_freeHandle_7 (fun c7 => ?_) (fun c7 => ?_)
      · have h7 := n_lt (16 - n) 1 c7
        obtain rfl : n = 16 := by omega
        refine ev_iload_2 36 d_mo_freeHandle_36 ?_
        refine ev_iret 37 d_mo_freeHandle_37 rfl ?_
        exact ⟨_, _, _, rfl, rfl, rfl, rfl, rfl⟩
      · have h7 := n_nlt (16 - n) 1 c7
        refine ev_aload_0 10 d_mo_freeHandle_10 ?_
        refine mo_getr 11 12 16 d_mo_freeHandle_11 lk_46 ?_
        refine ev_bipush (17) 14 d_mo_freeHandle_14 (by decide) ?_
        refine ev_iload_1 16 d_mo_freeHandle_16 ?_
        refine ev_imul 17 d_mo_freeHandle_17 ?_
        refine ev_iload_3 18 d_mo_freeHandle_18 ?_
        refine ev_iadd 19 d_mo_freeHandle_19 ?_
        refine ev_topi (nI (17 * I + (16 - n))) (by rw [n_17, pk_mul, nI_add]) ?_
        refine mo_zldn (j := 17 * I + (16 - n)) 20 12 16 d_mo_freeHandle_20 (by show 17 * I + (16 - n) < 102; omega) ?_
        refine ev_ifeq 21 28 d_mo_freeHandle_21 (fun c21 => ?_) (fun c21 => ?_)
        · refine ev_iload_3 28 d_mo_freeHandle_28 ?_
          refine ev_istore_2 29 d_mo_freeHandle_29 ?_
          refine ev_iinc_3 30 d_mo_freeHandle_30 ?_
          refine ev_goto 33 5 d_mo_freeHandle_33 ?_
          exact ev_eq (ih (n + 1) (by omega) (by omega)) (h1 := by rw [n_d1 (by omega), show 16 - n - 1 = 16 - (n + 1) by omega, mo_fh, if_pos c21])
        · refine ev_iload_2 24 d_mo_freeHandle_24 ?_
          refine ev_goto 25 29 d_mo_freeHandle_25 ?_
          refine ev_istore_2 29 d_mo_freeHandle_29 ?_
          refine ev_iinc_3 30 d_mo_freeHandle_30 ?_
          refine ev_goto 33 5 d_mo_freeHandle_33 ?_
          exact ev_eq (ih (n + 1) (by omega) (by omega)) (h1 := by rw [n_d1 (by omega), show 16 - n - 1 = 16 - (n + 1) by omega, mo_fh, if_neg c21])
  refine ev_iconst_0 0 d_mo_freeHandle_0 ?_
  refine ev_istore_2 1 d_mo_freeHandle_1 ?_
  refine ev_bipush (16) 2 d_mo_freeHandle_2 (by decide) ?_
  refine ev_istore_3 4 d_mo_freeHandle_4 ?_
  exact L5 17 0 (by omega) (by omega)

set_option maxHeartbeats 4000000 in
set_option maxRecDepth 100000 in
theorem mt_inUse {l : Launch} {D : va_G} {tl : List (ClassId × FieldType)} {Z : (Nat → Prop) → State → Heap → Prop} {kI kZ : ClassId} {am : Nat → Nat} {F : Nat → Int32} {B : Nat → Nat → Int32} (hZ : ev_Zok Z) (I : Nat) (hI : I < 6) : MT (mo_π l D cl_A kI kZ tl Z) m_inUse 0 0 [.ref (am 60), .int (nI I)] (mo_W mo_ci am kI kZ F B) (mo_qi am kI kZ (fun x F1 B1 => x = nI (mo_iu (B 16) (17 * I) 16) ∧ F1 = F ∧ B1 = B)) := by
  refine mt_of mo_pl rfl (Nat.le_of_ble_eq_true rfl) (ev_eq (lv' := [some (.ref (am 60)), some (.int (nI I)), none, none]) ?_)
  have L4 : ∀ m n : Nat, 16 - n < m → n ≤ 16 → EV (mo_π l D cl_A kI kZ tl Z) m_inUse (ev_E (mo_π l D cl_A kI kZ tl Z) 0 0 (mo_qi am kI kZ (fun x F1 B1 => x = nI (mo_iu (B 16) (17 * I) 16) ∧ F1 = F ∧ B1 = B))) 0 0 4 [some (.ref (am 60)), some (.int (nI I)), some (.int (nI (mo_iu (B 16) (17 * I) n))), some (.int (nI (n + 1)))] [] (mo_W mo_ci am kI kZ F B) := by
    intro m
    induction m with
    | zero => intro n h; omega
    | succ m ih =>
      intro n hm hn
      refine ev_iload_3 4 d_mo_inUse_4 ?_
      refine ev_bipush (16) 5 d_mo_inUse_5 (by decide) ?_
      refine ev_icmpgt 7 38 d_mo_inUse_7 (fun c7 => ?_) (fun c7 => ?_)
      · have h7 := n_lt 16 (n + 1) c7
        obtain rfl : n = 16 := by omega
        refine ev_iload_2 38 d_mo_inUse_38 ?_
        refine ev_iret 39 d_mo_inUse_39 rfl ?_
        exact ⟨_, _, _, rfl, rfl, rfl, rfl, rfl⟩
      · have h7 := n_nlt 16 (n + 1) c7
        refine ev_aload_0 10 d_mo_inUse_10 ?_
        refine mo_getr 11 12 16 d_mo_inUse_11 lk_46 ?_
        refine ev_bipush (17) 14 d_mo_inUse_14 (by decide) ?_
        refine ev_iload_1 16 d_mo_inUse_16 ?_
        refine ev_imul 17 d_mo_inUse_17 ?_
        refine ev_iload_3 18 d_mo_inUse_18 ?_
        refine ev_iadd 19 d_mo_inUse_19 ?_
        refine ev_topi (nI (17 * I + (n + 1))) (by rw [n_17, pk_mul, nI_add]) ?_
        refine mo_zldn (j := 17 * I + (n + 1)) 20 12 16 d_mo_inUse_20 (by show 17 * I + (n + 1) < 102; omega) ?_
        refine ev_ifeq 21 30 d_mo_inUse_21 (fun c21 => ?_) (fun c21 => ?_)
        · refine ev_iload_2 30 d_mo_inUse_30 ?_
          refine ev_istore_2 31 d_mo_inUse_31 ?_
          refine ev_iinc_3 32 d_mo_inUse_32 ?_
          refine ev_goto 35 4 d_mo_inUse_35 ?_
          exact ev_eq (ih (n + 1) (by omega) (by omega)) (h1 := by rw [n_i1, mo_iu, if_pos c21])
        · refine ev_iload_2 24 d_mo_inUse_24 ?_
          refine ev_iconst_1 25 d_mo_inUse_25 ?_
          refine ev_iadd 26 d_mo_inUse_26 ?_
          refine ev_goto 27 31 d_mo_inUse_27 ?_
          refine ev_istore_2 31 d_mo_inUse_31 ?_
          refine ev_iinc_3 32 d_mo_inUse_32 ?_
          refine ev_goto 35 4 d_mo_inUse_35 ?_
          exact ev_eq (ih (n + 1) (by omega) (by omega)) (h1 := by rw [n_i1, mo_iu, if_neg c21, nI_1])
  refine ev_iconst_0 0 d_mo_inUse_0 ?_
  refine ev_istore_2 1 d_mo_inUse_1 ?_
  refine ev_iconst_1 2 d_mo_inUse_2 ?_
  refine ev_istore_3 3 d_mo_inUse_3 ?_
  exact L4 17 0 (by omega) (by omega)

set_option maxHeartbeats 4000000 in
set_option maxRecDepth 100000 in
theorem mt_loans {l : Launch} {D : va_G} {tl : List (ClassId × FieldType)} {Z : (Nat → Prop) → State → Heap → Prop} {kI kZ : ClassId} {am : Nat → Nat} {F : Nat → Int32} {B : Nat → Nat → Int32} (hZ : ev_Zok Z) (X : Nat) (hX : X < 102) : MT (mo_π l D cl_A kI kZ tl Z) m_loans 0 0 [.ref (am 60), .int (nI X)] (mo_W mo_ci am kI kZ F B) (mo_qi am kI kZ (fun x F1 B1 => x = mo_ln B (nI X) (B 21 X) 102 ∧ F1 = F ∧ B1 = B)) := by
  refine mt_of mo_pl rfl (Nat.le_of_ble_eq_true rfl) (ev_eq (lv' := [some (.ref (am 60)), some (.int (nI X)), none, none]) ?_)
  have L9 : ∀ m n : Nat, 102 - n < m → n ≤ 102 → EV (mo_π l D cl_A kI kZ tl Z) m_loans (ev_E (mo_π l D cl_A kI kZ tl Z) 0 0 (mo_qi am kI kZ (fun x F1 B1 => x = mo_ln B (nI X) (B 21 X) 102 ∧ F1 = F ∧ B1 = B))) 0 0 9 [some (.ref (am 60)), some (.int (nI X)), some (.int (mo_ln B (nI X) (B 21 X) n)), some (.int (nI n))] [] (mo_W mo_ci am kI kZ F B) := by
    intro m
    induction m with
    | zero => intro n h; omega
    | succ m ih =>
      intro n hm hn
      refine ev_iload_3 9 d_mo_loans_9 ?_
      refine ev_bipush (102) 10 d_mo_loans_10 (by decide) ?_
      refine ev_icmpge 12 57 d_mo_loans_12 (fun c12 => ?_) (fun c12 => ?_)
      · have h12 := n_le 102 n c12
        obtain rfl : n = 102 := by omega
        refine ev_iload_2 57 d_mo_loans_57 ?_
        refine ev_iret 58 d_mo_loans_58 rfl ?_
        exact ⟨_, _, _, rfl, rfl, rfl, rfl, rfl⟩
      · have h12 := n_nle 102 n c12
        refine ev_aload_0 15 d_mo_loans_15 ?_
        refine mo_getr 16 12 16 d_mo_loans_16 lk_46 ?_
        refine ev_iload_3 19 d_mo_loans_19 ?_
        refine mo_zldn (j := n) 20 12 16 d_mo_loans_20 (by show n < 102; omega) ?_
        refine ev_ifeq 21 49 d_mo_loans_21 (fun c21 => ?_) (fun c21 => ?_)
        · refine ev_iload_2 49 d_mo_loans_49 ?_
          refine ev_istore_2 50 d_mo_loans_50 ?_
          refine ev_iinc_3 51 d_mo_loans_51 ?_
          refine ev_goto 54 9 d_mo_loans_54 ?_
          exact ev_eq (ih (n + 1) (by omega) (by omega)) (h1 := by rw [n_i1, mo_ln, if_neg (fun z => z.1 c21)])
        · refine ev_aload_0 24 d_mo_loans_24 ?_
          refine mo_getr 25 14 18 d_mo_loans_25 lk_53 ?_
          refine ev_iload_3 28 d_mo_loans_28 ?_
          refine mo_zldn (j := n) 29 14 18 d_mo_loans_29 (by show n < 102; omega) ?_
          refine ev_ifne 30 49 d_mo_loans_30 (fun c30 => ?_) (fun c30 => ?_)
          · refine ev_iload_2 49 d_mo_loans_49 ?_
            refine ev_istore_2 50 d_mo_loans_50 ?_
            refine ev_iinc_3 51 d_mo_loans_51 ?_
            refine ev_goto 54 9 d_mo_loans_54 ?_
            exact ev_eq (ih (n + 1) (by omega) (by omega)) (h1 := by rw [n_i1, mo_ln, if_neg (fun z => c30 z.2.1)])
          · refine ev_aload_0 33 d_mo_loans_33 ?_
            refine mo_getr 34 15 19 d_mo_loans_34 lk_56 ?_
            refine ev_iload_3 37 d_mo_loans_37 ?_
            refine mo_aldn (j := n) 38 15 19 d_mo_loans_38 (by show n < 102; omega) ?_
            refine ev_iload_1 39 d_mo_loans_39 ?_
            refine ev_icmpne 40 49 d_mo_loans_40 (fun c40 => ?_) (fun c40 => ?_)
            · refine ev_iload_2 49 d_mo_loans_49 ?_
              refine ev_istore_2 50 d_mo_loans_50 ?_
              refine ev_iinc_3 51 d_mo_loans_51 ?_
              refine ev_goto 54 9 d_mo_loans_54 ?_
              exact ev_eq (ih (n + 1) (by omega) (by omega)) (h1 := by rw [n_i1, mo_ln, if_neg (fun z => c40 z.2.2)])
            · refine ev_iload_2 43 d_mo_loans_43 ?_
              refine ev_iconst_1 44 d_mo_loans_44 ?_
              refine ev_iadd 45 d_mo_loans_45 ?_
              refine ev_goto 46 50 d_mo_loans_46 ?_
              refine ev_istore_2 50 d_mo_loans_50 ?_
              refine ev_iinc_3 51 d_mo_loans_51 ?_
              refine ev_goto 54 9 d_mo_loans_54 ?_
              exact ev_eq (ih (n + 1) (by omega) (by omega)) (h1 := by rw [n_i1, mo_ln, if_pos ⟨c21, c30, c40⟩])
  refine ev_aload_0 0 d_mo_loans_0 ?_
  refine mo_getr 1 17 21 d_mo_loans_1 lk_62 ?_
  refine ev_iload_1 4 d_mo_loans_4 ?_
  refine mo_aldn (j := X) 5 17 21 d_mo_loans_5 (by exact hX) ?_
  refine ev_istore_2 6 d_mo_loans_6 ?_
  refine ev_iconst_0 7 d_mo_loans_7 ?_
  refine ev_istore_3 8 d_mo_loans_8 ?_
  exact L9 103 0 (by omega) (by omega)

set_option maxHeartbeats 4000000 in
set_option maxRecDepth 100000 in
theorem mt_part {l : Launch} {D : va_G} {tl : List (ClassId × FieldType)} {Z : (Nat → Prop) → State → Heap → Prop} {kI kZ : ClassId} {am : Nat → Nat} {F : Nat → Int32} {B : Nat → Nat → Int32} (hZ : ev_Zok Z) (t : Int32) (hd : ¬ F 10 = 6 → vp_in (F 10) 6) : MT (mo_π l D cl_A kI kZ tl Z) m_part 0 0 [.ref (am 60), .int t] (mo_W mo_ci am kI kZ F B) (mo_qi am kI kZ (fun x F1 B1 => (¬ (¬ t < 0 ∧ ¬ F 1 ≤ t) ∧ x = 0 ∧ F1 = upd F 0 1 ∧ B1 = B) ∨ ((¬ t < 0 ∧ ¬ F 1 ≤ t) ∧ F 10 = 6 ∧ x = 0 ∧ F1 = upd F 0 2 ∧ B1 = B) ∨ ((¬ t < 0 ∧ ¬ F 1 ≤ t) ∧ ¬ F 10 = 6 ∧ x = F 10 + 1 ∧ F1 = upd (upd F 0 0) 10 (F 10 + 1) ∧ B1 = va_up B 11 (upd (B 11) (F 10).toNatClampNeg t)))) := by
  refine mt_of mo_pl rfl (Nat.le_of_ble_eq_true rfl) (ev_eq (lv' := [some (.ref (am 60)), some (.int t)]) ?_)
  refine ev_aload_0 0 d_mo_part_0 ?_
  refine ev_aload_0 1 d_mo_part_1 ?_
  refine ev_iload_1 2 d_mo_part_2 ?_
  refine mo_calli1 3 d_mo_part_3 hZ kc_150 (mt_isType hZ _) (fun y F1 B1 h => ?_)
  obtain ⟨hy, e1, e2⟩ := h
  subst F1
  subst B1
  refine ev_ifne 6 13 d_mo_part_6 (fun c6 => ?_) (fun c6 => ?_)
  · refine ev_aload_0 13 d_mo_part_13 ?_
    refine mo_geti 14 10 d_mo_part_14 lk_154 ?_
    refine ev_bipush (6) 17 d_mo_part_17 (by decide) ?_
    refine ev_icmpne 19 26 d_mo_part_19 (fun c19 => ?_) (fun c19 => ?_)
    · refine ev_iconst_0 26 d_mo_part_26 ?_
      refine mo_calli1 27 d_mo_part_27 hZ kc_157 (mt_refuses hZ _) (fun x F1 B1 h => ?_)
      obtain ⟨hx, e1, e2⟩ := h
      subst F1
      subst B1
      refine ev_ifeq 30 35 d_mo_part_30 (fun c30 => ?_) (fun c30 => ?_)
      · refine ev_aload_0 35 d_mo_part_35 ?_
        refine mo_getr 36 8 11 d_mo_part_36 lk_34 ?_
        refine ev_aload_0 39 d_mo_part_39 ?_
        refine mo_geti 40 10 d_mo_part_40 lk_154 ?_
        refine ev_iload_1 43 d_mo_part_43 ?_
        refine mo_ast 44 8 11 d_mo_part_44 (by exact hd c19) ?_
        refine ev_aload_0 45 d_mo_part_45 ?_
        refine ev_dup_a 46 d_mo_part_46 ?_
        refine mo_geti 47 10 d_mo_part_47 lk_154 ?_
        refine ev_iconst_1 50 d_mo_part_50 ?_
        refine ev_iadd 51 d_mo_part_51 ?_
        refine mo_puti 52 10 d_mo_part_52 lp_154 ?_
        refine ev_aload_0 55 d_mo_part_55 ?_
        refine mo_geti 56 10 d_mo_part_56 lk_154 ?_
        refine ev_iret 59 d_mo_part_59 rfl ?_
        exact ⟨_, _, _, rfl, rfl, Or.inr (Or.inr ⟨mo_b1 hy c6, c19, rfl, rfl, rfl⟩)⟩
      · exact absurd (mo_r0 hx) c30
    · refine ev_iconst_2 22 d_mo_part_22 ?_
      refine ev_goto 23 27 d_mo_part_23 ?_
      refine mo_calli1 27 d_mo_part_27 hZ kc_157 (mt_refuses hZ _) (fun x F1 B1 h => ?_)
      obtain ⟨hx, e1, e2⟩ := h
      subst F1
      subst B1
      refine ev_ifeq 30 35 d_mo_part_30 (fun c30 => ?_) (fun c30 => ?_)
      · exact absurd c30 (mo_rk hx (by decide))
      · refine ev_iconst_0 33 d_mo_part_33 ?_
        refine ev_iret 34 d_mo_part_34 rfl ?_
        exact ⟨_, _, _, rfl, rfl, Or.inr (Or.inl ⟨mo_b1 hy c6, c19, rfl, rfl, rfl⟩)⟩
  · refine ev_iconst_1 9 d_mo_part_9 ?_
    refine ev_goto 10 27 d_mo_part_10 ?_
    refine mo_calli1 27 d_mo_part_27 hZ kc_157 (mt_refuses hZ _) (fun x F1 B1 h => ?_)
    obtain ⟨hx, e1, e2⟩ := h
    subst F1
    subst B1
    refine ev_ifeq 30 35 d_mo_part_30 (fun c30 => ?_) (fun c30 => ?_)
    · exact absurd c30 (mo_rk hx (by decide))
    · refine ev_iconst_0 33 d_mo_part_33 ?_
      refine ev_iret 34 d_mo_part_34 rfl ?_
      exact ⟨_, _, _, rfl, rfl, Or.inl ⟨mo_b0 hy c6, rfl, rfl, rfl⟩⟩

set_option maxHeartbeats 4000000 in
set_option maxRecDepth 100000 in
theorem mt_instance {l : Launch} {D : va_G} {tl : List (ClassId × FieldType)} {Z : (Nat → Prop) → State → Heap → Prop} {kI kZ : ClassId} {am : Nat → Nat} {F : Nat → Int32} {B : Nat → Nat → Int32} (hZ : ev_Zok Z) (hd : ¬ F 12 = 6 → vp_in (F 12) 6) : MT (mo_π l D cl_A kI kZ tl Z) m_instance 0 0 [.ref (am 60)] (mo_W mo_ci am kI kZ F B) (mo_qi am kI kZ (fun x F1 B1 => (F 12 = 6 ∧ x = 0 ∧ F1 = upd F 0 1 ∧ B1 = B) ∨ (¬ F 12 = 6 ∧ x = F 12 + 1 - 1 ∧ F1 = upd (upd F 0 0) 12 (F 12 + 1) ∧ B1 = va_up B 14 (upd (B 14) (F 12).toNatClampNeg 128)))) := by
  refine mt_of mo_pl rfl (Nat.le_of_ble_eq_true rfl) (ev_eq (lv' := [some (.ref (am 60))]) ?_)
  refine ev_aload_0 0 d_mo_instance_0 ?_
  refine ev_aload_0 1 d_mo_instance_1 ?_
  refine mo_geti 2 12 d_mo_instance_2 lk_147 ?_
  refine ev_bipush (6) 5 d_mo_instance_5 (by decide) ?_
  refine ev_icmpne 7 14 d_mo_instance_7 (fun c7 => ?_) (fun c7 => ?_)
  · refine ev_iconst_0 14 d_mo_instance_14 ?_
    refine mo_calli1 15 d_mo_instance_15 hZ kc_157 (mt_refuses hZ _) (fun x F1 B1 h => ?_)
    obtain ⟨hx, e1, e2⟩ := h
    subst F1
    subst B1
    refine ev_ifeq 18 23 d_mo_instance_18 (fun c18 => ?_) (fun c18 => ?_)
    · refine ev_aload_0 23 d_mo_instance_23 ?_
      refine mo_getr 24 10 14 d_mo_instance_24 lk_40 ?_
      refine ev_aload_0 27 d_mo_instance_27 ?_
      refine mo_geti 28 12 d_mo_instance_28 lk_147 ?_
      refine ev_sipush (128) 31 d_mo_instance_31 (by decide) ?_
      refine mo_ast 34 10 14 d_mo_instance_34 (by exact hd c7) ?_
      refine ev_aload_0 35 d_mo_instance_35 ?_
      refine ev_dup_a 36 d_mo_instance_36 ?_
      refine mo_geti 37 12 d_mo_instance_37 lk_147 ?_
      refine ev_iconst_1 40 d_mo_instance_40 ?_
      refine ev_iadd 41 d_mo_instance_41 ?_
      refine mo_puti 42 12 d_mo_instance_42 lp_147 ?_
      refine ev_aload_0 45 d_mo_instance_45 ?_
      refine mo_geti 46 12 d_mo_instance_46 lk_147 ?_
      refine ev_iconst_1 49 d_mo_instance_49 ?_
      refine ev_isub 50 d_mo_instance_50 ?_
      refine ev_iret 51 d_mo_instance_51 rfl ?_
      exact ⟨_, _, _, rfl, rfl, Or.inr ⟨c7, rfl, rfl, rfl⟩⟩
    · exact absurd (mo_r0 hx) c18
  · refine ev_iconst_1 10 d_mo_instance_10 ?_
    refine ev_goto 11 15 d_mo_instance_11 ?_
    refine mo_calli1 15 d_mo_instance_15 hZ kc_157 (mt_refuses hZ _) (fun x F1 B1 h => ?_)
    obtain ⟨hx, e1, e2⟩ := h
    subst F1
    subst B1
    refine ev_ifeq 18 23 d_mo_instance_18 (fun c18 => ?_) (fun c18 => ?_)
    · exact absurd c18 (mo_rk hx (by decide))
    · refine ev_iconst_0 21 d_mo_instance_21 ?_
      refine ev_iret 22 d_mo_instance_22 rfl ?_
      exact ⟨_, _, _, rfl, rfl, Or.inl ⟨c7, rfl, rfl, rfl⟩⟩

set_option maxHeartbeats 4000000 in
set_option maxRecDepth 100000 in
theorem mt_read {l : Launch} {D : va_G} {tl : List (ClassId × FieldType)} {Z : (Nat → Prop) → State → Heap → Prop} {kI kZ : ClassId} {am : Nat → Nat} {F : Nat → Int32} {B : Nat → Nat → Int32} (hZ : ev_Zok Z) (i : Int32) (p : Int32) (hb : (¬ i < 0 ∧ ¬ F 12 ≤ i) → ¬ p < 0 → ¬ 255 < p → vp_in (256 * i + p) 1536) : MT (mo_π l D cl_A kI kZ tl Z) m_read 0 0 [.ref (am 60), .int i, .int p] (mo_W mo_ci am kI kZ F B) (mo_qi am kI kZ (fun x F1 B1 => ((¬ (¬ i < 0 ∧ ¬ F 12 ≤ i) ∧ x = 0 ∧ F1 = upd F 0 1) ∨ ((¬ i < 0 ∧ ¬ F 12 ≤ i) ∧ (p < 0 ∨ 255 < p) ∧ x = 0 ∧ F1 = upd F 0 2) ∨ ((¬ i < 0 ∧ ¬ F 12 ≤ i) ∧ ¬ p < 0 ∧ ¬ 255 < p ∧ x = B 13 (256 * i + p).toNatClampNeg ∧ F1 = upd F 0 0)) ∧ B1 = B)) := by
  refine mt_of mo_pl rfl (Nat.le_of_ble_eq_true rfl) (ev_eq (lv' := [some (.ref (am 60)), some (.int i), some (.int p)]) ?_)
  refine ev_aload_0 0 d_mo_read_0 ?_
  refine ev_aload_0 1 d_mo_read_1 ?_
  refine ev_iload_1 2 d_mo_read_2 ?_
  refine mo_calli1 3 d_mo_read_3 hZ kc_197 (mt_isInstance hZ _) (fun y F1 B1 h => ?_)
  obtain ⟨hy, e1, e2⟩ := h
  subst F1
  subst B1
  refine ev_ifne 6 13 d_mo_read_6 (fun c6 => ?_) (fun c6 => ?_)
  · refine ev_iload_2 13 d_mo_read_13 ?_
    refine ev_iflt 14 24 d_mo_read_14 (fun c14 => ?_) (fun c14 => ?_)
    · refine ev_iconst_2 24 d_mo_read_24 ?_
      refine ev_goto 25 29 d_mo_read_25 ?_
      refine mo_calli1 29 d_mo_read_29 hZ kc_157 (mt_refuses hZ _) (fun x F1 B1 h => ?_)
      obtain ⟨hx, e1, e2⟩ := h
      subst F1
      subst B1
      refine ev_ifeq 32 39 d_mo_read_32 (fun c32 => ?_) (fun c32 => ?_)
      · exact absurd c32 (mo_rk hx (by decide))
      · refine ev_iconst_0 35 d_mo_read_35 ?_
        refine ev_goto 36 51 d_mo_read_36 ?_
        refine ev_iret 51 d_mo_read_51 rfl ?_
        exact ⟨_, _, _, rfl, rfl, Or.inr (Or.inl ⟨mo_b1 hy c6, Or.inl c14, rfl, rfl⟩), rfl⟩
    · refine ev_iload_2 17 d_mo_read_17 ?_
      refine ev_sipush (255) 18 d_mo_read_18 (by decide) ?_
      refine ev_icmple 21 28 d_mo_read_21 (fun c21 => ?_) (fun c21 => ?_)
      · refine ev_iconst_0 28 d_mo_read_28 ?_
        refine mo_calli1 29 d_mo_read_29 hZ kc_157 (mt_refuses hZ _) (fun x F1 B1 h => ?_)
        obtain ⟨hx, e1, e2⟩ := h
        subst F1
        subst B1
        refine ev_ifeq 32 39 d_mo_read_32 (fun c32 => ?_) (fun c32 => ?_)
        · refine ev_aload_0 39 d_mo_read_39 ?_
          refine mo_getr 40 9 13 d_mo_read_40 lk_37 ?_
          refine ev_sipush (256) 43 d_mo_read_43 (by decide) ?_
          refine ev_iload_1 46 d_mo_read_46 ?_
          refine ev_imul 47 d_mo_read_47 ?_
          refine ev_iload_2 48 d_mo_read_48 ?_
          refine ev_iadd 49 d_mo_read_49 ?_
          refine mo_ald 50 9 13 d_mo_read_50 (by exact hb (mo_b1 hy c6) c14 (Int32.not_lt.mpr c21)) ?_
          refine ev_iret 51 d_mo_read_51 rfl ?_
          exact ⟨_, _, _, rfl, rfl, Or.inr (Or.inr ⟨mo_b1 hy c6, c14, Int32.not_lt.mpr c21, rfl, rfl⟩), rfl⟩
        · exact absurd (mo_r0 hx) c32
      · refine ev_iconst_2 24 d_mo_read_24 ?_
        refine ev_goto 25 29 d_mo_read_25 ?_
        refine mo_calli1 29 d_mo_read_29 hZ kc_157 (mt_refuses hZ _) (fun x F1 B1 h => ?_)
        obtain ⟨hx, e1, e2⟩ := h
        subst F1
        subst B1
        refine ev_ifeq 32 39 d_mo_read_32 (fun c32 => ?_) (fun c32 => ?_)
        · exact absurd c32 (mo_rk hx (by decide))
        · refine ev_iconst_0 35 d_mo_read_35 ?_
          refine ev_goto 36 51 d_mo_read_36 ?_
          refine ev_iret 51 d_mo_read_51 rfl ?_
          exact ⟨_, _, _, rfl, rfl, Or.inr (Or.inl ⟨mo_b1 hy c6, Or.inr (Int32.not_le.mp c21), rfl, rfl⟩), rfl⟩
  · refine ev_iconst_1 9 d_mo_read_9 ?_
    refine ev_goto 10 29 d_mo_read_10 ?_
    refine mo_calli1 29 d_mo_read_29 hZ kc_157 (mt_refuses hZ _) (fun x F1 B1 h => ?_)
    obtain ⟨hx, e1, e2⟩ := h
    subst F1
    subst B1
    refine ev_ifeq 32 39 d_mo_read_32 (fun c32 => ?_) (fun c32 => ?_)
    · exact absurd c32 (mo_rk hx (by decide))
    · refine ev_iconst_0 35 d_mo_read_35 ?_
      refine ev_goto 36 51 d_mo_read_36 ?_
      refine ev_iret 51 d_mo_read_51 rfl ?_
      exact ⟨_, _, _, rfl, rfl, Or.inl ⟨mo_b0 hy c6, rfl, rfl⟩, rfl⟩

def mo_ps (F : Nat → Int32) (B : Nat → Nat → Int32) (i f p : Int32) : Nat → Nat → Int32 := va_up (va_up (va_up (va_up B 30 (upd (B 30) (F 29).toNatClampNeg i)) 31 (upd (B 31) (F 29).toNatClampNeg f)) 32 (upd (B 32) (F 29).toNatClampNeg p)) 15 (upd (B 15) i.toNatClampNeg 1)

set_option maxHeartbeats 4000000 in
set_option maxRecDepth 100000 in
theorem mt_enter {l : Launch} {D : va_G} {tl : List (ClassId × FieldType)} {Z : (Nat → Prop) → State → Heap → Prop} {kI kZ : ClassId} {am : Nat → Nat} {F : Nat → Int32} {B : Nat → Nat → Int32} (hZ : ev_Zok Z) (i : Int32) (hi : (¬ i < 0 ∧ ¬ F 12 ≤ i) → vp_in i 6) (hl : ¬ 0 < F 29 → vp_in (F 29) 6) : MT (mo_π l D cl_A kI kZ tl Z) m_enter 0 0 [.ref (am 60), .int i] (mo_W mo_ci am kI kZ F B) (mo_qv am kI kZ (fun F1 B1 => (¬ (¬ i < 0 ∧ ¬ F 12 ≤ i) ∧ F1 = upd F 0 1 ∧ B1 = B) ∨ ((¬ i < 0 ∧ ¬ F 12 ≤ i) ∧ (0 < F 29 ∨ ¬ B 15 i.toNatClampNeg = 0) ∧ F1 = upd F 0 2 ∧ B1 = B) ∨ ((¬ i < 0 ∧ ¬ F 12 ≤ i) ∧ ¬ 0 < F 29 ∧ B 15 i.toNatClampNeg = 0 ∧ F1 = upd (upd F 0 0) 29 (F 29 + 1) ∧ B1 = mo_ps F B i (-1) (-1)))) := by
  refine mt_of mo_pl rfl (Nat.le_of_ble_eq_true rfl) (ev_eq (lv' := [some (.ref (am 60)), some (.int i)]) ?_)
  refine ev_aload_0 0 d_mo_enter_0 ?_
  refine ev_aload_0 1 d_mo_enter_1 ?_
  refine ev_iload_1 2 d_mo_enter_2 ?_
  refine mo_calli1 3 d_mo_enter_3 hZ kc_197 (mt_isInstance hZ _) (fun y F1 B1 h => ?_)
  obtain ⟨hy, e1, e2⟩ := h
  subst F1
  subst B1
  refine ev_ifne 6 13 d_mo_enter_6 (fun c6 => ?_) (fun c6 => ?_)
  · refine ev_aload_0 13 d_mo_enter_13 ?_
    refine mo_geti 14 29 d_mo_enter_14 lk_208 ?_
    refine ev_ifgt 17 29 d_mo_enter_17 (fun c17 => ?_) (fun c17 => ?_)
    · refine ev_iconst_2 29 d_mo_enter_29 ?_
      refine ev_goto 30 34 d_mo_enter_30 ?_
      refine mo_calli1 34 d_mo_enter_34 hZ kc_157 (mt_refuses hZ _) (fun x F1 B1 h => ?_)
      obtain ⟨hx, e1, e2⟩ := h
      subst F1
      subst B1
      refine ev_ifeq 37 41 d_mo_enter_37 (fun c37 => ?_) (fun c37 => ?_)
      · exact absurd c37 (mo_rk hx (by decide))
      · refine ev_vret 40 d_mo_enter_40 rfl ?_
        exact ⟨_, _, rfl, rfl, Or.inr (Or.inl ⟨mo_b1 hy c6, Or.inl c17, rfl, rfl⟩)⟩
    · refine ev_aload_0 20 d_mo_enter_20 ?_
      refine mo_getr 21 11 15 d_mo_enter_21 lk_43 ?_
      refine ev_iload_1 24 d_mo_enter_24 ?_
      refine mo_ald 25 11 15 d_mo_enter_25 (by exact hi (mo_b1 hy c6)) ?_
      refine ev_ifeq 26 33 d_mo_enter_26 (fun c26 => ?_) (fun c26 => ?_)
      · refine ev_iconst_0 33 d_mo_enter_33 ?_
        refine mo_calli1 34 d_mo_enter_34 hZ kc_157 (mt_refuses hZ _) (fun x F1 B1 h => ?_)
        obtain ⟨hx, e1, e2⟩ := h
        subst F1
        subst B1
        refine ev_ifeq 37 41 d_mo_enter_37 (fun c37 => ?_) (fun c37 => ?_)
        · refine ev_aload_0 41 d_mo_enter_41 ?_
          refine ev_iload_1 42 d_mo_enter_42 ?_
          refine ev_iconst_m1 43 d_mo_enter_43 ?_
          refine ev_iconst_m1 44 d_mo_enter_44 ?_
          refine mo_callv3 45 d_mo_enter_45 hZ kc_211 (mt_push hZ _ _ _ (hl c17) (hi (mo_b1 hy c6))) (fun F1 B1 h => ?_)
          obtain ⟨rfl, rfl⟩ := h
          refine ev_vret 48 d_mo_enter_48 rfl ?_
          exact ⟨_, _, rfl, rfl, Or.inr (Or.inr ⟨mo_b1 hy c6, c17, c26, rfl, rfl⟩)⟩
        · exact absurd (mo_r0 hx) c37
      · refine ev_iconst_2 29 d_mo_enter_29 ?_
        refine ev_goto 30 34 d_mo_enter_30 ?_
        refine mo_calli1 34 d_mo_enter_34 hZ kc_157 (mt_refuses hZ _) (fun x F1 B1 h => ?_)
        obtain ⟨hx, e1, e2⟩ := h
        subst F1
        subst B1
        refine ev_ifeq 37 41 d_mo_enter_37 (fun c37 => ?_) (fun c37 => ?_)
        · exact absurd c37 (mo_rk hx (by decide))
        · refine ev_vret 40 d_mo_enter_40 rfl ?_
          exact ⟨_, _, rfl, rfl, Or.inr (Or.inl ⟨mo_b1 hy c6, Or.inr c26, rfl, rfl⟩)⟩
  · refine ev_iconst_1 9 d_mo_enter_9 ?_
    refine ev_goto 10 34 d_mo_enter_10 ?_
    refine mo_calli1 34 d_mo_enter_34 hZ kc_157 (mt_refuses hZ _) (fun x F1 B1 h => ?_)
    obtain ⟨hx, e1, e2⟩ := h
    subst F1
    subst B1
    refine ev_ifeq 37 41 d_mo_enter_37 (fun c37 => ?_) (fun c37 => ?_)
    · exact absurd c37 (mo_rk hx (by decide))
    · refine ev_vret 40 d_mo_enter_40 rfl ?_
      exact ⟨_, _, rfl, rfl, Or.inl ⟨mo_b0 hy c6, rfl, rfl⟩⟩

set_option maxHeartbeats 4000000 in
set_option maxRecDepth 100000 in
theorem mt_leave {l : Launch} {D : va_G} {tl : List (ClassId × FieldType)} {Z : (Nat → Prop) → State → Heap → Prop} {kI kZ : ClassId} {am : Nat → Nat} {F : Nat → Int32} {B : Nat → Nat → Int32} (hZ : ev_Zok Z) (hr : vp_in (B 30 0) 6) : MT (mo_π l D cl_A kI kZ tl Z) m_leave 0 0 [.ref (am 60)] (mo_W mo_ci am kI kZ F B) (mo_qv am kI kZ (fun F1 B1 => (¬ F 29 = 1 ∧ F1 = upd F 0 1 ∧ B1 = B) ∨ (F 29 = 1 ∧ F1 = upd (upd F 0 0) 29 0 ∧ B1 = va_up (va_up B 15 (upd (B 15) (B 30 0).toNatClampNeg 0)) 14 (upd (B 14) (B 30 0).toNatClampNeg 128)))) := by
  refine mt_of mo_pl rfl (Nat.le_of_ble_eq_true rfl) (ev_eq (lv' := [some (.ref (am 60))]) ?_)
  refine ev_aload_0 0 d_mo_leave_0 ?_
  refine ev_aload_0 1 d_mo_leave_1 ?_
  refine mo_geti 2 29 d_mo_leave_2 lk_208 ?_
  refine ev_iconst_1 5 d_mo_leave_5 ?_
  refine ev_icmpeq 6 13 d_mo_leave_6 (fun c6 => ?_) (fun c6 => ?_)
  · refine ev_iconst_0 13 d_mo_leave_13 ?_
    refine mo_calli1 14 d_mo_leave_14 hZ kc_157 (mt_refuses hZ _) (fun x F1 B1 h => ?_)
    obtain ⟨hx, e1, e2⟩ := h
    subst F1
    subst B1
    refine ev_ifeq 17 21 d_mo_leave_17 (fun c17 => ?_) (fun c17 => ?_)
    · refine ev_aload_0 21 d_mo_leave_21 ?_
      refine ev_iconst_0 22 d_mo_leave_22 ?_
      refine mo_puti 23 29 d_mo_leave_23 lp_208 ?_
      refine ev_aload_0 26 d_mo_leave_26 ?_
      refine mo_getr 27 11 15 d_mo_leave_27 lk_43 ?_
      refine ev_aload_0 30 d_mo_leave_30 ?_
      refine mo_getr 31 23 30 d_mo_leave_31 lk_80 ?_
      refine ev_iconst_0 34 d_mo_leave_34 ?_
      refine ev_topi (nI (0)) (by rfl) ?_
      refine mo_aldn (j := 0) 35 23 30 d_mo_leave_35 (by decide) ?_
      refine ev_iconst_0 36 d_mo_leave_36 ?_
      refine mo_ast 37 11 15 d_mo_leave_37 (by exact hr) ?_
      refine ev_aload_0 38 d_mo_leave_38 ?_
      refine mo_getr 39 10 14 d_mo_leave_39 lk_40 ?_
      refine ev_aload_0 42 d_mo_leave_42 ?_
      refine mo_getr 43 23 30 d_mo_leave_43 lk_80 ?_
      refine ev_iconst_0 46 d_mo_leave_46 ?_
      refine ev_topi (nI (0)) (by rfl) ?_
      refine mo_aldn (j := 0) 47 23 30 d_mo_leave_47 (by decide) ?_
      refine ev_sipush (128) 48 d_mo_leave_48 (by decide) ?_
      refine mo_ast 51 10 14 d_mo_leave_51 (by exact hr) ?_
      refine ev_vret 52 d_mo_leave_52 rfl ?_
      exact ⟨_, _, rfl, rfl, Or.inr ⟨c6, rfl, rfl⟩⟩
    · exact absurd (mo_r0 hx) c17
  · refine ev_iconst_1 9 d_mo_leave_9 ?_
    refine ev_goto 10 14 d_mo_leave_10 ?_
    refine mo_calli1 14 d_mo_leave_14 hZ kc_157 (mt_refuses hZ _) (fun x F1 B1 h => ?_)
    obtain ⟨hx, e1, e2⟩ := h
    subst F1
    subst B1
    refine ev_ifeq 17 21 d_mo_leave_17 (fun c17 => ?_) (fun c17 => ?_)
    · exact absurd c17 (mo_rk hx (by decide))
    · refine ev_vret 20 d_mo_leave_20 rfl ?_
      exact ⟨_, _, rfl, rfl, Or.inl ⟨c6, rfl, rfl⟩⟩

set_option maxHeartbeats 4000000 in
set_option maxRecDepth 100000 in
theorem mt_latest {l : Launch} {D : va_G} {tl : List (ClassId × FieldType)} {Z : (Nat → Prop) → State → Heap → Prop} {kI kZ : ClassId} {am : Nat → Nat} {F : Nat → Int32} {B : Nat → Nat → Int32} (hZ : ev_Zok Z) (w : Int32)  : MT (mo_π l D cl_A kI kZ tl Z) m_latest 0 0 [.ref (am 60), .int w] (mo_W mo_ci am kI kZ F B) (mo_qi am kI kZ (fun x F1 B1 => (((w < 0 ∨ 2 < w) ∧ x = 0 ∧ F1 = upd F 0 1) ∨ (¬ w < 0 ∧ ¬ 2 < w ∧ x = (if w = 0 then F 33 else if w = 1 then F 34 else F 35) ∧ F1 = upd F 0 0)) ∧ B1 = B)) := by
  refine mt_of mo_pl rfl (Nat.le_of_ble_eq_true rfl) (ev_eq (lv' := [some (.ref (am 60)), some (.int w)]) ?_)
  refine ev_aload_0 0 d_mo_latest_0 ?_
  refine ev_iload_1 1 d_mo_latest_1 ?_
  refine ev_iflt 2 10 d_mo_latest_2 (fun c2 => ?_) (fun c2 => ?_)
  · refine ev_iconst_1 10 d_mo_latest_10 ?_
    refine ev_goto 11 15 d_mo_latest_11 ?_
    refine mo_calli1 15 d_mo_latest_15 hZ kc_157 (mt_refuses hZ _) (fun x F1 B1 h => ?_)
    obtain ⟨hx, e1, e2⟩ := h
    subst F1
    subst B1
    refine ev_ifeq 18 23 d_mo_latest_18 (fun c18 => ?_) (fun c18 => ?_)
    · exact absurd c18 (mo_rk hx (by decide))
    · refine ev_iconst_0 21 d_mo_latest_21 ?_
      refine ev_iret 22 d_mo_latest_22 rfl ?_
      exact ⟨_, _, _, rfl, rfl, Or.inl ⟨Or.inl c2, rfl, rfl⟩, rfl⟩
  · refine ev_iload_1 5 d_mo_latest_5 ?_
    refine ev_iconst_2 6 d_mo_latest_6 ?_
    refine ev_icmple 7 14 d_mo_latest_7 (fun c7 => ?_) (fun c7 => ?_)
    · refine ev_iconst_0 14 d_mo_latest_14 ?_
      refine mo_calli1 15 d_mo_latest_15 hZ kc_157 (mt_refuses hZ _) (fun x F1 B1 h => ?_)
      obtain ⟨hx, e1, e2⟩ := h
      subst F1
      subst B1
      refine ev_ifeq 18 23 d_mo_latest_18 (fun c18 => ?_) (fun c18 => ?_)
      · refine ev_iload_1 23 d_mo_latest_23 ?_
        refine ev_ifne 24 34 d_mo_latest_24 (fun c24 => ?_) (fun c24 => ?_)
        · refine ev_iload_1 34 d_mo_latest_34 ?_
          refine ev_iconst_1 35 d_mo_latest_35 ?_
          refine ev_icmpne 36 46 d_mo_latest_36 (fun c36 => ?_) (fun c36 => ?_)
          · refine ev_aload_0 46 d_mo_latest_46 ?_
            refine mo_geti 47 35 d_mo_latest_47 lk_89 ?_
            refine ev_iret 50 d_mo_latest_50 rfl ?_
            exact ⟨_, _, _, rfl, rfl, Or.inr ⟨c2, Int32.not_lt.mpr c7, by rw [if_neg c24, if_neg c36]; rfl, rfl⟩, rfl⟩
          · refine ev_aload_0 39 d_mo_latest_39 ?_
            refine mo_geti 40 34 d_mo_latest_40 lk_281 ?_
            refine ev_goto 43 50 d_mo_latest_43 ?_
            refine ev_iret 50 d_mo_latest_50 rfl ?_
            exact ⟨_, _, _, rfl, rfl, Or.inr ⟨c2, Int32.not_lt.mpr c7, by rw [if_neg c24, if_pos c36]; rfl, rfl⟩, rfl⟩
        · refine ev_aload_0 27 d_mo_latest_27 ?_
          refine mo_geti 28 33 d_mo_latest_28 lk_278 ?_
          refine ev_goto 31 50 d_mo_latest_31 ?_
          refine ev_iret 50 d_mo_latest_50 rfl ?_
          exact ⟨_, _, _, rfl, rfl, Or.inr ⟨c2, Int32.not_lt.mpr c7, by rw [if_pos c24]; rfl, rfl⟩, rfl⟩
      · exact absurd (mo_r0 hx) c18
    · refine ev_iconst_1 10 d_mo_latest_10 ?_
      refine ev_goto 11 15 d_mo_latest_11 ?_
      refine mo_calli1 15 d_mo_latest_15 hZ kc_157 (mt_refuses hZ _) (fun x F1 B1 h => ?_)
      obtain ⟨hx, e1, e2⟩ := h
      subst F1
      subst B1
      refine ev_ifeq 18 23 d_mo_latest_18 (fun c18 => ?_) (fun c18 => ?_)
      · exact absurd c18 (mo_rk hx (by decide))
      · refine ev_iconst_0 21 d_mo_latest_21 ?_
        refine ev_iret 22 d_mo_latest_22 rfl ?_
        exact ⟨_, _, _, rfl, rfl, Or.inl ⟨Or.inr (Int32.not_le.mp c7), rfl, rfl⟩, rfl⟩
