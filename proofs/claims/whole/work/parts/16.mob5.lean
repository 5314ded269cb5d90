/-- byte j of a long -/
def mo_by (w : Int64) (j : Nat) : Int32 := ((w.toUInt64 >>> ((8 * nI j : Int32).toInt64.toUInt64 &&& Int64.toUInt64 63)).toInt64 &&& 255).toInt32
def mo_wb (f : Nat → Int32) (b : Nat) (w : Int64) : Nat → Nat → Int32
  | 0 => f
  | j + 1 => upd (mo_wb f b w j) (b + j) (mo_by w j)
/-- the bytes of an int, the lowest first -/
def mo_pb (f : Nat → Int32) (b : Nat) (v : Int32) : Nat → Nat → Int32
  | 0 => f
  | j + 1 => upd (mo_pb f b v j) (b + j) ((v >>> ((8 * nI j) &&& 31)) &&& 255)
def mo_zf (f : Nat → Int32) (b : Nat) : Nat → Nat → Int32
  | 0 => f
  | j + 1 => upd (mo_zf f b j) (b + j) 0
theorem n_r8 {x : Int32} (h1 : ¬ x < 1) (h2 : x ≤ 8) : ∃ j : Nat, 1 ≤ j ∧ j ≤ 8 ∧ x = nI j := by
  obtain ⟨j, hj, rfl⟩ := nI_of2 (M := 8) (n := 8) rfl (fun z => h1 (Int32.lt_of_lt_of_le z (by decide))) h2
  exact ⟨j, n_nlt j 1 h1, hj, rfl⟩
theorem n_r255 {x : Int32} (h1 : ¬ x < 0) (h2 : x ≤ 255) : ∃ j : Nat, j < 256 ∧ x = nI j := by
  obtain ⟨j, hj, rfl⟩ := nI_of2 (M := 255) (n := 255) rfl h1 h2
  exact ⟨j, by omega, rfl⟩
/-- the least multiple of al that is not below a -/
def mo_ut (a al : Nat) : Nat := (a + al - 1) / al * al
theorem mo_ut_eq {a al : Nat} (ha : a ≤ 1000000) (h0 : 0 < al) (h1 : al ≤ 1000) : (nI a + nI al - 1) / nI al * nI al = nI (mo_ut a al) := by
  rw [nI_add, n_1, pk_sub (by omega), pk_div (by omega) h0 (by omega), pk_mul, mo_ut]

set_option maxHeartbeats 4000000 in
set_option maxRecDepth 100000 in
theorem mt_write {l : Launch} {D : va_G} {tl : List (ClassId × FieldType)} {Z : (Nat → Prop) → State → Heap → Prop} {kI kZ : ClassId} {am : Nat → Nat} {F : Nat → Int32} {B : Nat → Nat → Int32} (hZ : ev_Zok Z) (i : Int32) (p : Int32) (n : Int32) (w : Int64) (NI : Nat) (hNI : F 12 = nI NI) (hN6 : NI ≤ 6) : MT (mo_π l D cl_A kI kZ tl Z) m_write 0 0 [.ref (am 60), .int i, .int p, .int n, .long w] (mo_W mo_ci am kI kZ F B) (mo_qv am kI kZ (fun F1 B1 => ((¬ (¬ i < 0 ∧ ¬ F 12 ≤ i) ∨ n < 1 ∨ 8 < n) ∧ F1 = upd F 0 1 ∧ B1 = B) ∨ ((¬ i < 0 ∧ ¬ F 12 ≤ i) ∧ ¬ n < 1 ∧ ¬ 8 < n ∧ (p < 0 ∨ 255 < p) ∧ F1 = upd F 0 2 ∧ B1 = B) ∨ (∃ ii a nn, ii < NI ∧ a < 256 ∧ 1 ≤ nn ∧ nn ≤ 8 ∧ i = nI ii ∧ p = nI a ∧ n = nI nn ∧ F1 = upd F 0 0 ∧ B1 = va_up B 13 (mo_wb (B 13) (256 * ii + a) w (min nn (256 - a)))))) := by
  refine mt_of mo_pl rfl (Nat.le_of_ble_eq_true rfl) (ev_eq (lv' := [some (.ref (am 60)), some (.int i), some (.int p), some (.int n), some (.long w), none, none]) ?_)
  have L50 : ∀ ii a nn : Nat, ii < NI → a < 256 → 1 ≤ nn → nn ≤ 8 → i = nI ii → p = nI a → n = nI nn → ∀ m j : Nat, min nn (256 - a) - j < m → j ≤ min nn (256 - a) → EV (mo_π l D cl_A kI kZ tl Z) m_write (ev_E (mo_π l D cl_A kI kZ tl Z) 0 0 (mo_qv am kI kZ (fun F1 B1 => ((¬ (¬ i < 0 ∧ ¬ F 12 ≤ i) ∨ n < 1 ∨ 8 < n) ∧ F1 = upd F 0 1 ∧ B1 = B) ∨ ((¬ i < 0 ∧ ¬ F 12 ≤ i) ∧ ¬ n < 1 ∧ ¬ 8 < n ∧ (p < 0 ∨ 255 < p) ∧ F1 = upd F 0 2 ∧ B1 = B) ∨ (∃ ii a nn, ii < NI ∧ a < 256 ∧ 1 ≤ nn ∧ nn ≤ 8 ∧ i = nI ii ∧ p = nI a ∧ n = nI nn ∧ F1 = upd F 0 0 ∧ B1 = va_up B 13 (mo_wb (B 13) (256 * ii + a) w (min nn (256 - a))))))) 0 0 50 [some (.ref (am 60)), some (.int (nI ii)), some (.int (nI a)), some (.int (nI nn)), some (.long w), none, some (.int (nI j))] [] (mo_W mo_ci am kI kZ (upd F 0 0) (va_up B 13 (mo_wb (B 13) (256 * ii + a) w j))) := by
    intro ii a nn hii ha hn1 hn8 e1 e2 e3 m
    subst e1 e2 e3
    induction m with
    | zero => intro j h; omega
    | succ m ih =>
      intro j hm hj
      refine ev_iload_6 50 d_mo_write_50 ?_
      refine ev_iload_3 52 d_mo_write_52 ?_
      refine ev_icmpge 53 100 d_mo_write_53 (fun c53 => ?_) (fun c53 => ?_)
      · refine ev_vret 100 d_mo_write_100 rfl ?_
        have ej : j = min nn (256 - a) := by have := n_le nn j c53; omega
        subst j
        exact ⟨_, _, rfl, rfl, Or.inr (Or.inr ⟨ii, a, nn, hii, ha, hn1, hn8, rfl, rfl, rfl, rfl, rfl⟩)⟩
      · refine ev_iload_2 56 d_mo_write_56 ?_
        refine ev_iload_6 57 d_mo_write_57 ?_
        refine ev_iadd 59 d_mo_write_59 ?_
        refine ev_sipush (256) 60 d_mo_write_60 (by decide) ?_
        refine ev_icmpge 63 100 d_mo_write_63 (fun c63 => ?_) (fun c63 => ?_)
        · refine ev_vret 100 d_mo_write_100 rfl ?_
          have ej : j = min nn (256 - a) := by have := n_le 256 (a + j) c63 rfl (by rw [nI_add]); omega
          subst j
          exact ⟨_, _, rfl, rfl, Or.inr (Or.inr ⟨ii, a, nn, hii, ha, hn1, hn8, rfl, rfl, rfl, rfl, rfl⟩)⟩
        · refine ev_aload_0 66 d_mo_write_66 ?_
          refine mo_getr 67 9 13 d_mo_write_67 lk_37 ?_
          refine ev_sipush (256) 70 d_mo_write_70 (by decide) ?_
          refine ev_iload_1 73 d_mo_write_73 ?_
          refine ev_imul 74 d_mo_write_74 ?_
          refine ev_iload_2 75 d_mo_write_75 ?_
          refine ev_iadd 76 d_mo_write_76 ?_
          refine ev_iload_6 77 d_mo_write_77 ?_
          refine ev_iadd 79 d_mo_write_79 ?_
          refine ev_lload_4 80 d_mo_write_80 ?_
          refine ev_bipush (8) 82 d_mo_write_82 (by decide) ?_
          refine ev_iload_6 84 d_mo_write_84 ?_
          refine ev_imul 86 d_mo_write_86 ?_
          refine ev_lushr 87 d_mo_write_87 ?_
          refine ev_ldc2 (255) 88 d_mo_write_88 kq_206 ?_
          refine ev_land 91 d_mo_write_91 ?_
          refine ev_l2i 92 d_mo_write_92 ?_
          refine ev_sndi (nI (256 * ii + a + j)) (by rw [n_256, pk_mul, nI_add, nI_add]) ?_
          refine mo_astn (j := 256 * ii + a + j) 93 9 13 d_mo_write_93 (by have q1 := n_nle nn j c53; have q2 := n_nle 256 (a + j) c63 rfl (by rw [nI_add]); show 256 * ii + a + j < 1536; omega) ?_
          refine ev_iinc_6 94 d_mo_write_94 ?_
          refine ev_goto 97 50 d_mo_write_97 ?_
          have q1 := n_nle nn j c53
          have q2 := n_nle 256 (a + j) c63 rfl (by rw [nI_add])
          exact ev_eq (ih (j + 1) (by omega) (by omega)) (h1 := by rw [n_i1]) (h3 := congrArg (mo_W mo_ci am kI kZ _) (bx_uu _ 13 _ _))
  refine ev_aload_0 0 d_mo_write_0 ?_
  refine ev_aload_0 1 d_mo_write_1 ?_
  refine ev_iload_1 2 d_mo_write_2 ?_
  refine mo_calli1 3 d_mo_write_3 hZ kc_197 (mt_isInstance hZ _) (fun y F1 B1 h => ?_)
  obtain ⟨hy, e1, e2⟩ := h
  subst F1
  subst B1
  refine ev_ifeq 6 20 d_mo_write_6 (fun c6 => ?_) (fun c6 => ?_)
  · refine ev_iconst_1 20 d_mo_write_20 ?_
    refine ev_goto 21 40 d_mo_write_21 ?_
    refine mo_calli1 40 d_mo_write_40 hZ kc_157 (mt_refuses hZ _) (fun x F1 B1 h => ?_)
    obtain ⟨hx, e1, e2⟩ := h
    subst F1
    subst B1
    refine ev_ifeq 43 47 d_mo_write_43 (fun c43 => ?_) (fun c43 => ?_)
    · exact absurd c43 (mo_rk hx (by decide))
    · refine ev_vret 46 d_mo_write_46 rfl ?_
      exact ⟨_, _, rfl, rfl, Or.inl ⟨Or.inl (mo_b0 hy c6), rfl, rfl⟩⟩
  · refine ev_iload_3 9 d_mo_write_9 ?_
    refine ev_iconst_1 10 d_mo_write_10 ?_
    refine ev_icmplt 11 20 d_mo_write_11 (fun c11 => ?_) (fun c11 => ?_)
    · refine ev_iconst_1 20 d_mo_write_20 ?_
      refine ev_goto 21 40 d_mo_write_21 ?_
      refine mo_calli1 40 d_mo_write_40 hZ kc_157 (mt_refuses hZ _) (fun x F1 B1 h => ?_)
      obtain ⟨hx, e1, e2⟩ := h
      subst F1
      subst B1
      refine ev_ifeq 43 47 d_mo_write_43 (fun c43 => ?_) (fun c43 => ?_)
      · exact absurd c43 (mo_rk hx (by decide))
      · refine ev_vret 46 d_mo_write_46 rfl ?_
        exact ⟨_, _, rfl, rfl, Or.inl ⟨Or.inr (Or.inl c11), rfl, rfl⟩⟩
    · refine ev_iload_3 14 d_mo_write_14 ?_
      refine ev_bipush (8) 15 d_mo_write_15 (by decide) ?_
      refine ev_icmple 17 24 d_mo_write_17 (fun c17 => ?_) (fun c17 => ?_)
      · refine ev_iload_2 24 d_mo_write_24 ?_
        refine ev_iflt 25 35 d_mo_write_25 (fun c25 => ?_) (fun c25 => ?_)
        · refine ev_iconst_2 35 d_mo_write_35 ?_
          refine ev_goto 36 40 d_mo_write_36 ?_
          refine mo_calli1 40 d_mo_write_40 hZ kc_157 (mt_refuses hZ _) (fun x F1 B1 h => ?_)
          obtain ⟨hx, e1, e2⟩ := h
          subst F1
          subst B1
          refine ev_ifeq 43 47 d_mo_write_43 (fun c43 => ?_) (fun c43 => ?_)
          · exact absurd c43 (mo_rk hx (by decide))
          · refine ev_vret 46 d_mo_write_46 rfl ?_
            exact ⟨_, _, rfl, rfl, Or.inr (Or.inl ⟨mo_b1 hy c6, c11, Int32.not_lt.mpr c17, Or.inl c25, rfl, rfl⟩)⟩
        · refine ev_iload_2 28 d_mo_write_28 ?_
          refine ev_sipush (255) 29 d_mo_write_29 (by decide) ?_
          refine ev_icmple 32 39 d_mo_write_32 (fun c32 => ?_) (fun c32 => ?_)
          · refine ev_iconst_0 39 d_mo_write_39 ?_
            refine mo_calli1 40 d_mo_write_40 hZ kc_157 (mt_refuses hZ _) (fun x F1 B1 h => ?_)
            obtain ⟨hx, e1, e2⟩ := h
            subst F1
            subst B1
            refine ev_ifeq 43 47 d_mo_write_43 (fun c43 => ?_) (fun c43 => ?_)
            · refine ev_iconst_0 47 d_mo_write_47 ?_
              refine ev_istore_6 48 d_mo_write_48 ?_
              obtain ⟨ii, hii, rfl⟩ := n_ins hNI hN6 (mo_b1 hy c6)
              obtain ⟨nn, hn1, hn8, rfl⟩ := n_r8 c11 c17
              obtain ⟨a, ha, rfl⟩ := n_r255 c25 c32
              exact ev_eq (L50 ii a nn hii ha hn1 hn8 rfl rfl rfl 300 0 (by omega) (by omega)) (h3 := congrArg (mo_W mo_ci am kI kZ _) (mo_upid B 13).symm)
            · exact absurd (mo_r0 hx) c43
          · refine ev_iconst_2 35 d_mo_write_35 ?_
            refine ev_goto 36 40 d_mo_write_36 ?_
            refine mo_calli1 40 d_mo_write_40 hZ kc_157 (mt_refuses hZ _) (fun x F1 B1 h => ?_)
            obtain ⟨hx, e1, e2⟩ := h
            subst F1
            subst B1
            refine ev_ifeq 43 47 d_mo_write_43 (fun c43 => ?_) (fun c43 => ?_)
            · exact absurd c43 (mo_rk hx (by decide))
            · refine ev_vret 46 d_mo_write_46 rfl ?_
              exact ⟨_, _, rfl, rfl, Or.inr (Or.inl ⟨mo_b1 hy c6, c11, Int32.not_lt.mpr c17, Or.inr (Int32.not_le.mp c32), rfl, rfl⟩)⟩
      · refine ev_iconst_1 20 d_mo_write_20 ?_
        refine ev_goto 21 40 d_mo_write_21 ?_
        refine mo_calli1 40 d_mo_write_40 hZ kc_157 (mt_refuses hZ _) (fun x F1 B1 h => ?_)
        obtain ⟨hx, e1, e2⟩ := h
        subst F1
        subst B1
        refine ev_ifeq 43 47 d_mo_write_43 (fun c43 => ?_) (fun c43 => ?_)
        · exact absurd c43 (mo_rk hx (by decide))
        · refine ev_vret 46 d_mo_write_46 rfl ?_
          exact ⟨_, _, rfl, rfl, Or.inl ⟨Or.inr (Or.inr (Int32.not_le.mp c17)), rfl, rfl⟩⟩

set_option maxHeartbeats 4000000 in
set_option maxRecDepth 100000 in
theorem mt_put {l : Launch} {D : va_G} {tl : List (ClassId × FieldType)} {Z : (Nat → Prop) → State → Heap → Prop} {kI kZ : ClassId} {am : Nat → Nat} {F : Nat → Int32} {B : Nat → Nat → Int32} (hZ : ev_Zok Z) (J : Nat) (p : Nat) (k : Nat) (v : Int32) (hJ : J < 6) (hp : p + k ≤ 256) : MT (mo_π l D cl_A kI kZ tl Z) m_put 0 0 [.ref (am 60), .int (nI J), .int (nI p), .int (nI k), .int v] (mo_W mo_ci am kI kZ F B) (mo_qv am kI kZ (fun F1 B1 => F1 = F ∧ B1 = va_up B 13 (mo_pb (B 13) (256 * J + p) v k))) := by
  refine mt_of mo_pl rfl (Nat.le_of_ble_eq_true rfl) (ev_eq (lv' := [some (.ref (am 60)), some (.int (nI J)), some (.int (nI p)), some (.int (nI k)), some (.int v), none]) ?_)
  have L3 : ∀ m j : Nat, k - j < m → j ≤ k → EV (mo_π l D cl_A kI kZ tl Z) m_put (ev_E (mo_π l D cl_A kI kZ tl Z) 0 0 (mo_qv am kI kZ (fun F1 B1 => F1 = F ∧ B1 = va_up B 13 (mo_pb (B 13) (256 * J + p) v k)))) 0 0 3 [some (.ref (am 60)), some (.int (nI J)), some (.int (nI p)), some (.int (nI k)), some (.int v), some (.int (nI j))] [] (mo_W mo_ci am kI kZ F (va_up B 13 (mo_pb (B 13) (256 * J + p) v j))) := by
    intro m
    induction m with
    | zero => intro j h; omega
    | succ m ih =>
      intro j hm hj
      refine ev_iload_5 3 d_mo_put_3 ?_
      refine ev_iload_3 5 d_mo_put_5 ?_
      refine ev_icmpge 6 42 d_mo_put_6 (fun c6 => ?_) (fun c6 => ?_)
      · have h6 := n_le k j c6
        have ej : j = k := by omega
        subst j
        refine ev_vret 42 d_mo_put_42 rfl ?_
        exact ⟨_, _, rfl, rfl, rfl, rfl⟩
      · have h6 := n_nle k j c6
        refine ev_aload_0 9 d_mo_put_9 ?_
        refine mo_getr 10 9 13 d_mo_put_10 lk_37 ?_
        refine ev_sipush (256) 13 d_mo_put_13 (by decide) ?_
        refine ev_iload_1 16 d_mo_put_16 ?_
        refine ev_imul 17 d_mo_put_17 ?_
        refine ev_iload_2 18 d_mo_put_18 ?_
        refine ev_iadd 19 d_mo_put_19 ?_
        refine ev_iload_5 20 d_mo_put_20 ?_
        refine ev_iadd 22 d_mo_put_22 ?_
        refine ev_iload_4 23 d_mo_put_23 ?_
        refine ev_bipush (8) 25 d_mo_put_25 (by decide) ?_
        refine ev_iload_5 27 d_mo_put_27 ?_
        refine ev_imul 29 d_mo_put_29 ?_
        refine ev_ishr 30 d_mo_put_30 ?_
        refine ev_sipush (255) 31 d_mo_put_31 (by decide) ?_
        refine ev_iand 34 d_mo_put_34 ?_
        refine ev_sndi (nI (256 * J + p + j)) (by rw [n_256, pk_mul, nI_add, nI_add]) ?_
        refine mo_astn (j := 256 * J + p + j) 35 9 13 d_mo_put_35 (by show 256 * J + p + j < 1536; omega) ?_
        refine ev_iinc_5 36 d_mo_put_36 ?_
        refine ev_goto 39 3 d_mo_put_39 ?_
        exact ev_eq (ih (j + 1) (by omega) (by omega)) (h1 := by rw [n_i1]) (h3 := congrArg (mo_W mo_ci am kI kZ _) (bx_uu _ 13 _ _))
  refine ev_iconst_0 0 d_mo_put_0 ?_
  refine ev_istore_5 1 d_mo_put_1 ?_
  exact ev_eq (L3 (k + 1) 0 (by omega) (by omega)) (h3 := congrArg (mo_W mo_ci am kI kZ _) (mo_upid B 13).symm)

set_option maxHeartbeats 4000000 in
set_option maxRecDepth 100000 in
theorem mt_room {l : Launch} {D : va_G} {tl : List (ClassId × FieldType)} {Z : (Nat → Prop) → State → Heap → Prop} {kI kZ : ClassId} {am : Nat → Nat} {F : Nat → Int32} {B : Nat → Nat → Int32} (hZ : ev_Zok Z) (J : Nat) (k : Nat) (al : Nat) (hJ : J < 6) (hk : k ≤ 1000000000) (ha : 0 < al) (ha2 : al ≤ 1000) (hp : Nat) (hh : B 14 J = nI hp) (hp2 : hp ≤ 256) (hu : mo_ut hp al ≤ 1000000) : MT (mo_π l D cl_A kI kZ tl Z) m_room 0 0 [.ref (am 60), .int (nI J), .int (nI k), .int (nI al)] (mo_W mo_ci am kI kZ F B) (mo_qi am kI kZ (fun x F1 B1 => (256 < mo_ut hp al + k ∧ x = 0 ∧ F1 = mo_fl F 11 (nI (mo_ut hp al)) ∧ B1 = B) ∨ (mo_ut hp al + k ≤ 256 ∧ x = nI (mo_ut hp al) ∧ F1 = F ∧ B1 = va_up (va_up B 13 (mo_zf (B 13) (256 * J + mo_ut hp al) k)) 14 (upd (B 14) J (nI (mo_ut hp al + k)))))) := by
  refine mt_of mo_pl rfl (Nat.le_of_ble_eq_true rfl) (ev_eq (lv' := [some (.ref (am 60)), some (.int (nI J)), some (.int (nI k)), some (.int (nI al)), none, none]) ?_)
  have L35 : mo_ut hp al + k ≤ 256 → ∀ m j : Nat, k - j < m → j ≤ k → EV (mo_π l D cl_A kI kZ tl Z) m_room (ev_E (mo_π l D cl_A kI kZ tl Z) 0 0 (mo_qi am kI kZ (fun x F1 B1 => (256 < mo_ut hp al + k ∧ x = 0 ∧ F1 = mo_fl F 11 (nI (mo_ut hp al)) ∧ B1 = B) ∨ (mo_ut hp al + k ≤ 256 ∧ x = nI (mo_ut hp al) ∧ F1 = F ∧ B1 = va_up (va_up B 13 (mo_zf (B 13) (256 * J + mo_ut hp al) k)) 14 (upd (B 14) J (nI (mo_ut hp al + k))))))) 0 0 35 [some (.ref (am 60)), some (.int (nI J)), some (.int (nI k)), some (.int (nI al)), some (.int (nI (mo_ut hp al))), some (.int (nI j))] [] (mo_W mo_ci am kI kZ F (va_up B 13 (mo_zf (B 13) (256 * J + mo_ut hp al) j))) := by
    intro hq m
    induction m with
    | zero => intro j h; omega
    | succ m ih =>
      intro j hm hj
      refine ev_iload_5 35 d_mo_room_35 ?_
      refine ev_iload_2 37 d_mo_room_37 ?_
      refine ev_icmpge 38 64 d_mo_room_38 (fun c38 => ?_) (fun c38 => ?_)
      · have h38 := n_le k j c38
        have ej : j = k := by omega
        subst j
        refine ev_aload_0 64 d_mo_room_64 ?_
        refine mo_getr 65 10 14 d_mo_room_65 lk_40 ?_
        refine ev_iload_1 68 d_mo_room_68 ?_
        refine ev_iload_4 69 d_mo_room_69 ?_
        refine ev_iload_2 71 d_mo_room_71 ?_
        refine ev_iadd 72 d_mo_room_72 ?_
        rw [nI_add]
        refine mo_astn (j := J) 73 10 14 d_mo_room_73 (by exact hJ) ?_
        refine ev_iload_4 74 d_mo_room_74 ?_
        refine ev_iret 76 d_mo_room_76 rfl ?_
        exact ⟨_, _, _, rfl, rfl, Or.inr ⟨hq, rfl, rfl, rfl⟩⟩
      · have h38 := n_nle k j c38
        refine ev_aload_0 41 d_mo_room_41 ?_
        refine mo_getr 42 9 13 d_mo_room_42 lk_37 ?_
        refine ev_sipush (256) 45 d_mo_room_45 (by decide) ?_
        refine ev_iload_1 48 d_mo_room_48 ?_
        refine ev_imul 49 d_mo_room_49 ?_
        refine ev_iload_4 50 d_mo_room_50 ?_
        refine ev_iadd 52 d_mo_room_52 ?_
        refine ev_iload_5 53 d_mo_room_53 ?_
        refine ev_iadd 55 d_mo_room_55 ?_
        refine ev_iconst_0 56 d_mo_room_56 ?_
        refine ev_sndi (nI (256 * J + mo_ut hp al + j)) (by rw [n_256, pk_mul, nI_add, nI_add]) ?_
        refine mo_astn (j := 256 * J + mo_ut hp al + j) 57 9 13 d_mo_room_57 (by show 256 * J + mo_ut hp al + j < 1536; omega) ?_
        refine ev_iinc_5 58 d_mo_room_58 ?_
        refine ev_goto 61 35 d_mo_room_61 ?_
        exact ev_eq (ih (j + 1) (by omega) (by omega)) (h1 := by rw [n_i1]) (h3 := congrArg (mo_W mo_ci am kI kZ _) (bx_uu _ 13 _ _))
  refine ev_aload_0 0 d_mo_room_0 ?_
  refine mo_getr 1 10 14 d_mo_room_1 lk_40 ?_
  refine ev_iload_1 4 d_mo_room_4 ?_
  refine mo_aldn (j := J) 5 10 14 d_mo_room_5 (by exact hJ) ?_
  refine ev_topi (nI hp) hh ?_
  refine ev_iload_3 6 d_mo_room_6 ?_
  refine mo_scalli2 7 d_mo_room_7 hZ kc_173 (mt_upTo hZ _ _ (fun z => absurd ((n_z (by omega)).mp z) (by omega))) (fun y F1 B1 h => ?_)
  obtain ⟨rfl, e1, e2⟩ := h
  subst F1
  subst B1
  refine ev_topi (nI (mo_ut hp al)) (mo_ut_eq (by omega) ha (by omega)) ?_
  refine ev_istore_4 10 d_mo_room_10 ?_
  refine ev_iload_4 12 d_mo_room_12 ?_
  refine ev_iload_2 14 d_mo_room_14 ?_
  refine ev_iadd 15 d_mo_room_15 ?_
  refine ev_sipush (256) 16 d_mo_room_16 (by decide) ?_
  refine ev_icmple 19 32 d_mo_room_19 (fun c19 => ?_) (fun c19 => ?_)
  · refine ev_iconst_0 32 d_mo_room_32 ?_
    refine ev_istore_5 33 d_mo_room_33 ?_
    have hq := n_le (mo_ut hp al + k) 256 c19 (by rw [nI_add])
    exact ev_eq (L35 hq (k + 1) 0 (by omega) (by omega)) (h3 := congrArg (mo_W mo_ci am kI kZ _) (mo_upid B 13).symm)
  · refine ev_aload_0 22 d_mo_room_22 ?_
    refine ev_bipush (11) 23 d_mo_room_23 (by decide) ?_
    refine ev_iload_4 25 d_mo_room_25 ?_
    refine mo_callv2 27 d_mo_room_27 hZ kc_230 (mt_fails hZ _ _) (fun F1 B1 h => ?_)
    obtain ⟨e1, e2⟩ := h
    subst F1
    subst B1
    refine ev_iconst_0 30 d_mo_room_30 ?_
    refine ev_iret 31 d_mo_room_31 rfl ?_
    exact ⟨_, _, _, rfl, rfl, Or.inl ⟨n_nle (mo_ut hp al + k) 256 c19 (by rw [nI_add]), rfl, rfl, rfl⟩⟩
