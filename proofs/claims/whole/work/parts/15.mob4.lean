theorem mo_upid {α : Type} (B : Nat → α) (k : Nat) : va_up B k (B k) = B := by
  funext j
  by_cases e : j = k
  · subst e; simp [va_up]
  · simp [va_up, e]
/-- the handles that were made for a value that was being passed are given back -/
def mo_t1 (u fo : Nat → Int32) : Nat → Nat → Int32
  | 0 => u
  | n + 1 => upd (mo_t1 u fo n) (fo n).toNatClampNeg 0
/-- what is lent is in use no more -/
def mo_t2 (u ow : Nat → Int32) : Nat → Nat → Int32
  | 0 => u
  | n + 1 => upd (mo_t2 u ow n) n (if ¬ mo_t2 u ow n n = 0 ∧ ¬ ow n = 0 then 1 else 0)
def mo_t3 (s ru : Nat → Int32) : Nat → Nat → Int32
  | 0 => s
  | n + 1 => upd (mo_t3 s ru n) (ru n).toNatClampNeg 0
def mo_t4 (h : Nat → Int32) : Nat → Nat → Int32
  | 0 => h
  | n + 1 => upd (mo_t4 h n) n 128
def mo_tB (B : Nat → Nat → Int32) (Fr Lv z : Nat) : Nat → Nat → Int32 := va_up (va_up (va_up (va_up B 16 (mo_t2 (mo_t1 (B 16) (B 53) Fr) (B 18) 102)) 15 (mo_t3 (B 15) (B 30) Lv)) 14 (mo_t4 (B 14) 6)) 15 (upd (mo_t3 (B 15) (B 30) Lv) z 2)
def mo_tF (F : Nat → Int32) (c p z : Int32) : Nat → Int32 := upd (upd (upd (upd (upd F 52 0) 29 0) 33 c) 34 p) 35 z

set_option maxHeartbeats 4000000 in
set_option maxRecDepth 100000 in
theorem mt_trapped {l : Launch} {D : va_G} {tl : List (ClassId × FieldType)} {Z : (Nat → Prop) → State → Heap → Prop} {kI kZ : ClassId} {am : Nat → Nat} {F : Nat → Int32} {B : Nat → Nat → Int32} (hZ : ev_Zok Z) (c : Int32) (p : Int32) (z : Nat) (Fr Lv : Nat) (hFr : F 52 = nI Fr) (hF16 : Fr ≤ 16) (hfo : ∀ k, k < Fr → vp_in (B 53 k) 102) (hLv : F 29 = nI Lv) (hL6 : Lv ≤ 6) (hru : ∀ k, k < Lv → vp_in (B 30 k) 6) (hz : z < 6) : MT (mo_π l D cl_A kI kZ tl Z) m_trapped 0 0 [.ref (am 60), .int c, .int p, .int (nI z)] (mo_W mo_ci am kI kZ F B) (mo_qi am kI kZ (fun x F1 B1 => x = c ∧ F1 = mo_tF F c p (nI z) ∧ B1 = mo_tB B Fr Lv z)) := by
  refine mt_of mo_pl rfl (Nat.le_of_ble_eq_true rfl) (ev_eq (lv' := [some (.ref (am 60)), some (.int c), some (.int p), some (.int (nI z)), none]) ?_)
  have L123 : ∀ m n : Nat, 6 - n < m → n ≤ 6 → EV (mo_π l D cl_A kI kZ tl Z) m_trapped (ev_E (mo_π l D cl_A kI kZ tl Z) 0 0 (mo_qi am kI kZ (fun x F1 B1 => x = c ∧ F1 = mo_tF F c p (nI z) ∧ B1 = mo_tB B Fr Lv z))) 0 0 123 [some (.ref (am 60)), some (.int c), some (.int p), some (.int (nI z)), some (.int (nI n))] [] (mo_W mo_ci am kI kZ (upd (upd F 52 0) 29 0) (va_up (va_up (va_up B 16 (mo_t2 (mo_t1 (B 16) (B 53) Fr) (B 18) 102)) 15 (mo_t3 (B 15) (B 30) Lv)) 14 (mo_t4 (B 14) n))) := by
    intro m
    induction m with
    | zero => intro n h; omega
    | succ m ih =>
      intro n hm hn
      refine ev_iload_4 123 d_mo_trapped_123 ?_
      refine ev_bipush (6) 125 d_mo_trapped_125 (by decide) ?_
      refine ev_icmpge 127 146 d_mo_trapped_127 (fun c127 => ?_) (fun c127 => ?_)
      · have h127 := n_le 6 n c127
        obtain rfl : n = 6 := by omega
        refine ev_aload_0 146 d_mo_trapped_146 ?_
        refine mo_getr 147 11 15 d_mo_trapped_147 lk_43 ?_
        refine ev_iload_3 150 d_mo_trapped_150 ?_
        refine ev_iconst_2 151 d_mo_trapped_151 ?_
        refine mo_astn (j := z) 152 11 15 d_mo_trapped_152 (by exact hz) ?_
        refine ev_aload_0 153 d_mo_trapped_153 ?_
        refine ev_iload_1 154 d_mo_trapped_154 ?_
        refine mo_puti 155 33 d_mo_trapped_155 lp_278 ?_
        refine ev_aload_0 158 d_mo_trapped_158 ?_
        refine ev_iload_2 159 d_mo_trapped_159 ?_
        refine mo_puti 160 34 d_mo_trapped_160 lp_281 ?_
        refine ev_aload_0 163 d_mo_trapped_163 ?_
        refine ev_iload_3 164 d_mo_trapped_164 ?_
        refine mo_puti 165 35 d_mo_trapped_165 lp_89 ?_
        refine ev_iload_1 168 d_mo_trapped_168 ?_
        refine ev_iret 169 d_mo_trapped_169 rfl ?_
        exact ⟨_, _, _, rfl, rfl, rfl, rfl, rfl⟩
      · have h127 := n_nle 6 n c127
        refine ev_aload_0 130 d_mo_trapped_130 ?_
        refine mo_getr 131 10 14 d_mo_trapped_131 lk_40 ?_
        refine ev_iload_4 134 d_mo_trapped_134 ?_
        refine ev_sipush (128) 136 d_mo_trapped_136 (by decide) ?_
        refine mo_astn (j := n) 139 10 14 d_mo_trapped_139 (by show n < 6; omega) ?_
        refine ev_iinc_4 140 d_mo_trapped_140 ?_
        refine ev_goto 143 123 d_mo_trapped_143 ?_
        exact ev_eq (ih (n + 1) (by omega) (by omega)) (h1 := by rw [n_i1]) (h3 := by exact congrArg (mo_W mo_ci am kI kZ _) (bx_uu _ 14 _ _))
  have L87 : ∀ m n : Nat, Lv - n < m → n ≤ Lv → EV (mo_π l D cl_A kI kZ tl Z) m_trapped (ev_E (mo_π l D cl_A kI kZ tl Z) 0 0 (mo_qi am kI kZ (fun x F1 B1 => x = c ∧ F1 = mo_tF F c p (nI z) ∧ B1 = mo_tB B Fr Lv z))) 0 0 87 [some (.ref (am 60)), some (.int c), some (.int p), some (.int (nI z)), some (.int (nI n))] [] (mo_W mo_ci am kI kZ (upd F 52 0) (va_up (va_up B 16 (mo_t2 (mo_t1 (B 16) (B 53) Fr) (B 18) 102)) 15 (mo_t3 (B 15) (B 30) n))) := by
    intro m
    induction m with
    | zero => intro n h; omega
    | succ m ih =>
      intro n hm hn
      refine ev_iload_4 87 d_mo_trapped_87 ?_
      refine ev_aload_0 89 d_mo_trapped_89 ?_
      refine mo_geti 90 29 d_mo_trapped_90 lk_208 ?_
      refine ev_icmpge 93 115 d_mo_trapped_93 (fun c93 => ?_) (fun c93 => ?_)
      · have h93 := n_le Lv n c93 hLv
        have e93 : n = Lv := by omega
        subst n
        refine ev_aload_0 115 d_mo_trapped_115 ?_
        refine ev_iconst_0 116 d_mo_trapped_116 ?_
        refine mo_puti 117 29 d_mo_trapped_117 lp_208 ?_
        refine ev_iconst_0 120 d_mo_trapped_120 ?_
        refine ev_istore_4 121 d_mo_trapped_121 ?_
        exact ev_eq (L123 7 0 (by omega) (by omega)) (h3 := congrArg (mo_W mo_ci am kI kZ _) (mo_upid _ 14).symm)
      · have h93 := n_nle Lv n c93 hLv
        refine ev_aload_0 96 d_mo_trapped_96 ?_
        refine mo_getr 97 11 15 d_mo_trapped_97 lk_43 ?_
        refine ev_aload_0 100 d_mo_trapped_100 ?_
        refine mo_getr 101 23 30 d_mo_trapped_101 lk_80 ?_
        refine ev_iload_4 104 d_mo_trapped_104 ?_
        refine mo_aldn (j := n) 106 23 30 d_mo_trapped_106 (by show n < 6; omega) ?_
        refine ev_iconst_0 107 d_mo_trapped_107 ?_
        refine mo_ast 108 11 15 d_mo_trapped_108 (by exact hru n (by omega)) ?_
        refine ev_iinc_4 109 d_mo_trapped_109 ?_
        refine ev_goto 112 87 d_mo_trapped_112 ?_
        exact ev_eq (ih (n + 1) (by omega) (by omega)) (h1 := by rw [n_i1]) (h3 := by exact congrArg (mo_W mo_ci am kI kZ _) (bx_uu _ 15 _ _))
  have L39 : ∀ m n : Nat, 102 - n < m → n ≤ 102 → EV (mo_π l D cl_A kI kZ tl Z) m_trapped (ev_E (mo_π l D cl_A kI kZ tl Z) 0 0 (mo_qi am kI kZ (fun x F1 B1 => x = c ∧ F1 = mo_tF F c p (nI z) ∧ B1 = mo_tB B Fr Lv z))) 0 0 39 [some (.ref (am 60)), some (.int c), some (.int p), some (.int (nI z)), some (.int (nI n))] [] (mo_W mo_ci am kI kZ (upd F 52 0) (va_up B 16 (mo_t2 (mo_t1 (B 16) (B 53) Fr) (B 18) n))) := by
    intro m
    induction m with
    | zero => intro n h; omega
    | succ m ih =>
      intro n hm hn
      refine ev_iload_4 39 d_mo_trapped_39 ?_
      refine ev_bipush (102) 41 d_mo_trapped_41 (by decide) ?_
      refine ev_icmpge 43 84 d_mo_trapped_43 (fun c43 => ?_) (fun c43 => ?_)
      · have h43 := n_le 102 n c43
        obtain rfl : n = 102 := by omega
        refine ev_iconst_0 84 d_mo_trapped_84 ?_
        refine ev_istore_4 85 d_mo_trapped_85 ?_
        exact ev_eq (L87 (Lv + 1) 0 (by omega) (by omega)) (h3 := congrArg (mo_W mo_ci am kI kZ _) (mo_upid _ 15).symm)
      · have h43 := n_nle 102 n c43
        refine ev_aload_0 46 d_mo_trapped_46 ?_
        refine mo_getr 47 12 16 d_mo_trapped_47 lk_46 ?_
        refine ev_iload_4 50 d_mo_trapped_50 ?_
        refine ev_aload_0 52 d_mo_trapped_52 ?_
        refine mo_getr 53 12 16 d_mo_trapped_53 lk_46 ?_
        refine ev_iload_4 56 d_mo_trapped_56 ?_
        refine mo_zldn (j := n) 58 12 16 d_mo_trapped_58 (by show n < 102; omega) ?_
        refine ev_ifeq 59 76 d_mo_trapped_59 (fun c59 => ?_) (fun c59 => ?_)
        · refine ev_iconst_0 76 d_mo_trapped_76 ?_
          refine mo_zstn (j := n) 77 12 16 d_mo_trapped_77 (by show n < 102; omega) (by first | exact Or.inl rfl | exact Or.inr rfl) ?_
          refine ev_iinc_4 78 d_mo_trapped_78 ?_
          refine ev_goto 81 39 d_mo_trapped_81 ?_
          exact ev_eq (ih (n + 1) (by omega) (by omega)) (h1 := by rw [n_i1]) (h3 := by rw [mo_t2, if_neg (fun q => q.1 c59)]; exact congrArg (mo_W mo_ci am kI kZ _) (bx_uu _ 16 _ _))
        · refine ev_aload_0 62 d_mo_trapped_62 ?_
          refine mo_getr 63 14 18 d_mo_trapped_63 lk_53 ?_
          refine ev_iload_4 66 d_mo_trapped_66 ?_
          refine mo_zldn (j := n) 68 14 18 d_mo_trapped_68 (by show n < 102; omega) ?_
          refine ev_ifeq 69 76 d_mo_trapped_69 (fun c69 => ?_) (fun c69 => ?_)
          · refine ev_iconst_0 76 d_mo_trapped_76 ?_
            refine mo_zstn (j := n) 77 12 16 d_mo_trapped_77 (by show n < 102; omega) (by first | exact Or.inl rfl | exact Or.inr rfl) ?_
            refine ev_iinc_4 78 d_mo_trapped_78 ?_
            refine ev_goto 81 39 d_mo_trapped_81 ?_
            exact ev_eq (ih (n + 1) (by omega) (by omega)) (h1 := by rw [n_i1]) (h3 := by rw [mo_t2, if_neg (fun q => q.2 c69)]; exact congrArg (mo_W mo_ci am kI kZ _) (bx_uu _ 16 _ _))
          · refine ev_iconst_1 72 d_mo_trapped_72 ?_
            refine ev_goto 73 77 d_mo_trapped_73 ?_
            refine mo_zstn (j := n) 77 12 16 d_mo_trapped_77 (by show n < 102; omega) (by first | exact Or.inl rfl | exact Or.inr rfl) ?_
            refine ev_iinc_4 78 d_mo_trapped_78 ?_
            refine ev_goto 81 39 d_mo_trapped_81 ?_
            exact ev_eq (ih (n + 1) (by omega) (by omega)) (h1 := by rw [n_i1]) (h3 := by rw [mo_t2, if_pos ⟨c59, c69⟩]; exact congrArg (mo_W mo_ci am kI kZ _) (bx_uu _ 16 _ _))
  have L3 : ∀ m n : Nat, Fr - n < m → n ≤ Fr → EV (mo_π l D cl_A kI kZ tl Z) m_trapped (ev_E (mo_π l D cl_A kI kZ tl Z) 0 0 (mo_qi am kI kZ (fun x F1 B1 => x = c ∧ F1 = mo_tF F c p (nI z) ∧ B1 = mo_tB B Fr Lv z))) 0 0 3 [some (.ref (am 60)), some (.int c), some (.int p), some (.int (nI z)), some (.int (nI n))] [] (mo_W mo_ci am kI kZ F (va_up B 16 (mo_t1 (B 16) (B 53) n))) := by
    intro m
    induction m with
    | zero => intro n h; omega
    | succ m ih =>
      intro n hm hn
      refine ev_iload_4 3 d_mo_trapped_3 ?_
      refine ev_aload_0 5 d_mo_trapped_5 ?_
      refine mo_geti 6 52 d_mo_trapped_6 lk_260 ?_
      refine ev_icmpge 9 31 d_mo_trapped_9 (fun c9 => ?_) (fun c9 => ?_)
      · have h9 := n_le Fr n c9 hFr
        have e9 : n = Fr := by omega
        subst n
        refine ev_aload_0 31 d_mo_trapped_31 ?_
        refine ev_iconst_0 32 d_mo_trapped_32 ?_
        refine mo_puti 33 52 d_mo_trapped_33 lp_260 ?_
        refine ev_iconst_0 36 d_mo_trapped_36 ?_
        refine ev_istore_4 37 d_mo_trapped_37 ?_
        exact L39 103 0 (by omega) (by omega)
      · have h9 := n_nle Fr n c9 hFr
        refine ev_aload_0 12 d_mo_trapped_12 ?_
        refine mo_getr 13 12 16 d_mo_trapped_13 lk_46 ?_
        refine ev_aload_0 16 d_mo_trapped_16 ?_
        refine mo_getr 17 40 53 d_mo_trapped_17 lk_135 ?_
        refine ev_iload_4 20 d_mo_trapped_20 ?_
        refine mo_aldn (j := n) 22 40 53 d_mo_trapped_22 (by show n < 16; omega) ?_
        refine ev_iconst_0 23 d_mo_trapped_23 ?_
        refine mo_zst 24 12 16 d_mo_trapped_24 (by exact hfo n (by omega)) ?_
        refine ev_iinc_4 25 d_mo_trapped_25 ?_
        refine ev_goto 28 3 d_mo_trapped_28 ?_
        exact ev_eq (ih (n + 1) (by omega) (by omega)) (h1 := by rw [n_i1]) (h3 := by exact congrArg (mo_W mo_ci am kI kZ _) (bx_uu _ 16 _ _))
  refine ev_iconst_0 0 d_mo_trapped_0 ?_
  refine ev_istore_4 1 d_mo_trapped_1 ?_
  exact ev_eq (L3 (Fr + 1) 0 (by omega) (by omega)) (h3 := congrArg (mo_W mo_ci am kI kZ _) (mo_upid _ 16).symm)

set_option maxHeartbeats 4000000 in
set_option maxRecDepth 100000 in
theorem mt_trap {l : Launch} {D : va_G} {tl : List (ClassId × FieldType)} {Z : (Nat → Prop) → State → Heap → Prop} {kI kZ : ClassId} {am : Nat → Nat} {F : Nat → Int32} {B : Nat → Nat → Int32} (hZ : ev_Zok Z) (Lv : Nat) (hLv : F 29 = nI Lv) (hL6 : Lv ≤ 6) (R : Nat) (hR : 0 < Lv → B 30 (Lv - 1) = nI R ∧ R < 6) (hru : ∀ k, k < Lv → vp_in (B 30 k) 6) : MT (mo_π l D cl_A kI kZ tl Z) m_trap 0 0 [.ref (am 60)] (mo_W mo_ci am kI kZ F B) (mo_qv am kI kZ (fun F1 B1 => (F 29 = 0 ∧ F1 = upd F 0 1 ∧ B1 = B) ∨ (¬ F 29 = 0 ∧ F1 = mo_tF (upd (upd F 0 0) 52 0) 13 0 (nI R) ∧ B1 = mo_tB B 0 Lv R))) := by
  refine mt_of mo_pl rfl (Nat.le_of_ble_eq_true rfl) (ev_eq (lv' := [some (.ref (am 60))]) ?_)
  refine ev_aload_0 0 d_mo_trap_0 ?_
  refine ev_aload_0 1 d_mo_trap_1 ?_
  refine mo_geti 2 29 d_mo_trap_2 lk_208 ?_
  refine ev_ifne 5 12 d_mo_trap_5 (fun c5 => ?_) (fun c5 => ?_)
  · have hp : 0 < Lv := Nat.pos_of_ne_zero (fun z => c5 (by rw [hLv, z]; rfl))
    refine ev_iconst_0 12 d_mo_trap_12 ?_
    refine mo_calli1 13 d_mo_trap_13 hZ kc_157 (mt_refuses hZ _) (fun x F1 B1 h => ?_)
    obtain ⟨hx, e1, e2⟩ := h
    subst F1
    subst B1
    refine ev_ifeq 16 20 d_mo_trap_16 (fun c16 => ?_) (fun c16 => ?_)
    · refine ev_aload_0 20 d_mo_trap_20 ?_
      refine ev_iconst_0 21 d_mo_trap_21 ?_
      refine mo_puti 22 52 d_mo_trap_22 lp_260 ?_
      refine ev_aload_0 25 d_mo_trap_25 ?_
      refine ev_bipush (13) 26 d_mo_trap_26 (by decide) ?_
      refine ev_iconst_0 28 d_mo_trap_28 ?_
      refine ev_aload_0 29 d_mo_trap_29 ?_
      refine mo_getr 30 23 30 d_mo_trap_30 lk_80 ?_
      refine ev_aload_0 33 d_mo_trap_33 ?_
      refine mo_geti 34 29 d_mo_trap_34 lk_208 ?_
      refine ev_iconst_1 37 d_mo_trap_37 ?_
      refine ev_isub 38 d_mo_trap_38 ?_
      refine ev_topi (nI (Lv - 1)) (by show F 29 - 1 = nI (Lv - 1); rw [hLv]; exact n_s1 hp) ?_
      refine mo_aldn (j := Lv - 1) 39 23 30 d_mo_trap_39 (by show Lv - 1 < 6; omega) ?_
      refine ev_topi (nI R) (hR hp).1 ?_
      refine mo_calli3 40 d_mo_trap_40 hZ kc_284 (mt_trapped (F := upd (upd F 0 0) 52 0) hZ _ _ R 0 Lv rfl (by omega) (fun k h => absurd h (by omega)) hLv hL6 hru (hR hp).2) (fun y F1 B1 h => ?_)
      obtain ⟨rfl, e1, e2⟩ := h
      subst F1
      subst B1
      refine ev_pop_i 43 d_mo_trap_43 ?_
      refine ev_vret 44 d_mo_trap_44 rfl ?_
      exact ⟨_, _, rfl, rfl, Or.inr ⟨c5, rfl, rfl⟩⟩
    · exact absurd (mo_r0 hx) c16
  · refine ev_iconst_1 8 d_mo_trap_8 ?_
    refine ev_goto 9 13 d_mo_trap_9 ?_
    refine mo_calli1 13 d_mo_trap_13 hZ kc_157 (mt_refuses hZ _) (fun x F1 B1 h => ?_)
    obtain ⟨hx, e1, e2⟩ := h
    subst F1
    subst B1
    refine ev_ifeq 16 20 d_mo_trap_16 (fun c16 => ?_) (fun c16 => ?_)
    · exact absurd c16 (mo_rk hx (by decide))
    · refine ev_vret 19 d_mo_trap_19 rfl ?_
      exact ⟨_, _, rfl, rfl, Or.inl ⟨c5, rfl, rfl⟩⟩
