def nb_w (r : Nat ⊕ Nat) : Nat := match r with
  | .inl m => m
  | .inr m => m
theorem nb_bd {B : Nat → Nat → Int32} {NT : Nat} {ct dp : Nat → Nat} {pt : Nat → Nat → Nat} (hW : ty_wf B NT ct dp pt) : ∀ (d t u n : Nat), t < NT → u < NT → nb_w (nb_r B ct pt d t u n) ≤ n + 7 ^ d := by
  intro d
  induction d with
  | zero => intro t u n _ _; exact Nat.le_add_right _ _
  | succ d ih =>
    intro t u n ht hu
    have hct : ty_sh ct t u ≤ ct t := by unfold ty_sh; split <;> omega
    have hcu : ty_sh ct t u ≤ ct u := by unfold ty_sh; split <;> omega
    have h6 := (hW.2.1 t ht).2.1
    have h1 : 1 ≤ 7 ^ d := Nat.pow_pos (by omega)
    have PS : ∀ (r k n : Nat), k + r ≤ ty_sh ct t u → nb_w (nb_s (nb_r B ct pt d) pt t u r k n) ≤ n + r * 7 ^ d := by
      intro r
      induction r with
      | zero => intro k n _; exact Nat.le_add_right _ _
      | succ r ihr =>
        intro k n hk
        obtain ⟨p1, p2, p3⟩ := hW.2.2 t k ht (by omega)
        obtain ⟨q1, q2, q3⟩ := hW.2.2 u k hu (by omega)
        have hb := ih (pt t k) (pt u k) n p2 q2
        rw [nb_s, Nat.succ_mul]
        cases hx : nb_r B ct pt d (pt t k) (pt u k) n with
        | inl m =>
          rw [hx] at hb
          show m ≤ _
          have : m ≤ n + 7 ^ d := hb
          omega
        | inr m =>
          rw [hx] at hb
          have h2 : m ≤ n + 7 ^ d := hb
          have h3 := ihr (k + 1) m (by omega)
          dsimp only
          omega
    have h7 : ty_sh ct t u * 7 ^ d ≤ 6 * 7 ^ d := Nat.mul_le_mul_right _ (by omega)
    rw [nb_r, Nat.pow_succ]
    split
    · have := PS (ty_sh ct t u) 0 (n + 1) (by omega)
      omega
    · show n + 1 ≤ _
      omega
theorem nb_vw (r : Nat ⊕ Nat) : nb_v r ≤ nb_w r := by
  cases r with
  | inl m => exact Nat.le_refl _
  | inr m => exact Nat.zero_le _
theorem nb_z {n : Nat} (h : nI n ≤ 0) (hn : n < 2147483648) : n = 0 := by have := n_le n 0 h; omega
/-- the functions -/
def fn_ok (B : Nat → Nat → Int32) (NT NF : Nat) (hm ar rs : Nat → Nat) : Prop := NF ≤ 12 ∧ ∀ f, f < NF → B 26 f = nI (hm f) ∧ hm f < 6 ∧ B 27 f = nI (ar f) ∧ ar f < NT ∧ B 28 f = nI (rs f) ∧ rs f < NT
/-- what is wanted of the tables for a passing -/
def cl_ok (F : Nat → Int32) (B : Nat → Nat → Int32) (NT NF Lv : Nat) (ct dp : Nat → Nat) (pt : Nat → Nat → Nat) (sz al hm ar rs ru hp : Nat → Nat) : Prop := F 1 = nI NT ∧ F 25 = nI NF ∧ F 29 = nI Lv ∧ ty_wf B NT ct dp pt ∧ ty_rd B NT ct ∧ ty_sz B NT ct pt sz al ∧ fn_ok B NT NF hm ar rs ∧ mo_b8 B ∧ (∀ y, y < 102 → ¬ B 16 y = 0 → vp_in (B 17 y) 1024) ∧ (∀ j, j < 6 → B 14 j = nI (hp j) ∧ hp j ≤ 256) ∧ Lv ≤ 6 ∧ ∀ k, k < Lv → B 30 k = nI (ru k) ∧ ru k < 6
/-- the end of a call or of a way back: a trap or a new place -/
def cl_q (F : Nat → Int32) (B : Nat → Nat → Int32) (ct sz al hp : Nat → Nat) (Lv i tt J uu : Nat) (at_ : Int32) (N : Int32 → (Nat → Int32) → (Nat → Nat → Int32) → (Nat → Int32) → (Nat → Nat → Int32) → Prop) (x : Int32) (F1 : Nat → Int32) (B1 : Nat → Nat → Int32) : Prop :=
  ∃ y F2 B2, ps_q F B i J (hp J) (sz uu) (al uu) (rd_e (B 4) ct i 5 (nI tt, nI uu, 1, at_, -1, 0) 0 B) y F2 B2 ∧ ((F2 54 ≤ 0 ∧ x = 0 ∧ N y F2 B2 F1 B1) ∨ (¬ F2 54 ≤ 0 ∧ x = F2 54 ∧ ∃ Fr z, F2 52 = nI Fr ∧ Fr ≤ 16 ∧ (F2 54 = 11 ∨ F2 54 = 12 → z = J) ∧ (¬ (F2 54 = 11 ∨ F2 54 = 12) → z = i) ∧ F1 = mo_tF F2 (F2 54) (F2 55) (nI z) ∧ B1 = mo_tB B2 Fr Lv z))
theorem ty_all {B B' : Nat → Nat → Int32} {NT : Nat} {ct dp sz al : Nat → Nat} {pt : Nat → Nat → Nat} {R : Nat → Nat → Prop} (hs : mo_sw 0 B B') (hW : ty_wf B NT ct dp pt) (hD : ty_rd B NT ct) (hS : ty_sz B NT ct pt sz al) (hR : ty_ft B ct pt R) (h8 : mo_b8 B) : ty_wf B' NT ct dp pt ∧ ty_rd B' NT ct ∧ ty_sz B' NT ct pt sz al ∧ ty_ft B' ct pt R ∧ mo_b8 B' := by
  have e2 : B' 2 = B 2 := hs.1 2 (by omega)
  have e3 : B' 3 = B 3 := hs.1 3 (by omega)
  have e4 : B' 4 = B 4 := hs.1 4 (by omega)
  have e5 : B' 5 = B 5 := hs.1 5 (by omega)
  have e7 : B' 7 = B 7 := hs.1 7 (by omega)
  have e8 : B' 8 = B 8 := hs.1 8 (by omega)
  have e9 : B' 9 = B 9 := hs.1 9 (by omega)
  have e13 : B' 13 = B 13 := hs.1 13 (by omega)
  refine ⟨hW.co e7 e8, ?_, ?_, ?_, ?_⟩
  · unfold ty_rd; rw [e5, e2, e4]; exact hD
  · unfold ty_sz; rw [e2, e4, e5, e9]; exact hS
  · unfold ty_ft mo_al; rw [e2, e3, e7]; exact hR
  · unfold mo_b8; rw [e13]; exact h8

set_option maxHeartbeats 4000000 in
set_option maxRecDepth 100000 in
theorem mt_call {l : Launch} {D : va_G} {tl : List (ClassId × FieldType)} {Z : (Nat → Prop) → State → Heap → Prop} {kI kZ : ClassId} {am : Nat → Nat} {F : Nat → Int32} {B : Nat → Nat → Int32} (hZ : ev_Zok Z) (f : Int32) (t : Int32) (at_ : Int32) (NT NF Lv : Nat) (ct dp : Nat → Nat) (pt : Nat → Nat → Nat) (sz al hm ar rs ru hp : Nat → Nat) (hA : cl_ok F B NT NF Lv ct dp pt sz al hm ar rs ru hp) (hpu : ∀ j, j < 6 → B 15 j ≤ 1 → ¬ B 15 j = 1 → Lv < 6) : MT (mo_π l D cl_A kI kZ tl Z) m_call 0 0 [.ref (am 60), .int f, .int t, .int at_] (mo_W mo_ci am kI kZ F B) (mo_qi am kI kZ (fun x F1 B1 => (F 29 = 0 ∧ x = 0 ∧ F1 = upd F 0 1 ∧ mo_sw 0 B B1) ∨ (¬ F 29 = 0 ∧ ¬ ((¬ f < 0 ∧ ¬ F 25 ≤ f) ∧ (¬ t < 0 ∧ ¬ F 1 ≤ t)) ∧ x = 0 ∧ F1 = upd F 0 2 ∧ mo_sw 0 B B1) ∨ (∃ ff tt, ff < NF ∧ tt < NT ∧ f = nI ff ∧ t = nI tt ∧ ¬ F 29 = 0 ∧ ¬ nb_v (nb_r B ct pt 5 tt (ar ff) 0) = 0 ∧ x = 0 ∧ (∃ w, F1 = upd (upd F 36 w) 0 3) ∧ mo_sw 0 B B1) ∨ (∃ ff tt, ff < NF ∧ tt < NT ∧ f = nI ff ∧ t = nI tt ∧ ¬ F 29 = 0 ∧ nb_v (nb_r B ct pt 5 tt (ar ff) 0) = 0 ∧ ¬ B 15 (hm ff) ≤ 1 ∧ x = 0 ∧ (∃ w, F1 = upd (upd F 36 w) 0 4) ∧ mo_sw 0 B B1) ∨ (∃ ff tt, ff < NF ∧ tt < NT ∧ f = nI ff ∧ t = nI tt ∧ ¬ F 29 = 0 ∧ nb_v (nb_r B ct pt 5 tt (ar ff) 0) = 0 ∧ B 15 (hm ff) = 1 ∧ x = 14 ∧ (∃ w B2, mo_sw 0 B B2 ∧ F1 = mo_tF (upd (upd (upd F 36 w) 0 0) 52 0) 14 at_ (nI (ru (Lv - 1))) ∧ B1 = mo_tB B2 0 Lv (ru (Lv - 1)))) ∨ (∃ ff tt, ff < NF ∧ tt < NT ∧ f = nI ff ∧ t = nI tt ∧ ¬ F 29 = 0 ∧ nb_v (nb_r B ct pt 5 tt (ar ff) 0) = 0 ∧ B 15 (hm ff) ≤ 1 ∧ ¬ B 15 (hm ff) = 1 ∧ ∃ w B', mo_sw 0 B B' ∧ cl_q (upd (upd (upd F 36 w) 0 0) 52 0) B' ct sz al hp Lv (ru (Lv - 1)) tt (hm ff) (ar ff) at_ (fun y F2 B2 F1 B1 => F1 = upd F2 29 (F2 29 + 1) ∧ B1 = va_up (va_up (va_up (va_up B2 30 (upd (B2 30) Lv (nI (hm ff)))) 31 (upd (B2 31) Lv (nI ff))) 32 (upd (B2 32) Lv y)) 15 (upd (B2 15) (hm ff) 1)) x F1 B1))) := by
  refine mt_of mo_pl rfl (Nat.le_of_ble_eq_true rfl) (ev_eq (lv' := [some (.ref (am 60)), some (.int f), some (.int t), some (.int at_), none, none, none, none]) ?_)
  obtain ⟨hNT, hNF, hLv, hW, hD, hS, ⟨hNF2, hfn⟩, h8, hG, hhp, hL6, hru⟩ := hA
  refine ev_iload_1 0 d_mo_call_0 ?_
  refine ev_iflt 1 24 d_mo_call_1 (fun c1 => ?_) (fun c1 => ?_)
  · refine ev_iconst_0 24 d_mo_call_24 ?_
    refine ev_istore_4 25 d_mo_call_25 ?_
    refine ev_aload_0 27 d_mo_call_27 ?_
    refine ev_aload_0 28 d_mo_call_28 ?_
    refine mo_geti 29 29 d_mo_call_29 lk_208 ?_
    refine ev_ifne 32 39 d_mo_call_32 (fun c32 => ?_) (fun c32 => ?_)
    · replace c32 : ¬ F 29 = 0 := c32
      refine ev_iload_4 39 d_mo_call_39 ?_
      refine ev_ifne 41 48 d_mo_call_41 (fun c41 => ?_) (fun c41 => ?_)
      · exact absurd rfl c41
      · refine ev_iconst_2 44 d_mo_call_44 ?_
        refine ev_goto 45 86 d_mo_call_45 ?_
        refine mo_calli1 86 d_mo_call_86 hZ kc_157 (mt_refuses hZ _) (fun x F8 B8 h => ?_)
        obtain ⟨hx, e1, e2⟩ := h
        subst F8
        subst B8
        refine ev_ifeq 89 94 d_mo_call_89 (fun c89 => ?_) (fun c89 => ?_)
        · exact absurd c89 (mo_rk hx (by decide))
        · refine ev_iconst_0 92 d_mo_call_92 ?_
          refine ev_iret 93 d_mo_call_93 rfl ?_
          exact ⟨_, _, _, rfl, rfl, Or.inr (Or.inl ⟨c32, fun z => z.1.1 c1, rfl, rfl, mo_sw.rf _ _⟩)⟩
    · replace c32 : F 29 = 0 := c32
      refine ev_iconst_1 35 d_mo_call_35 ?_
      refine ev_goto 36 86 d_mo_call_36 ?_
      refine mo_calli1 86 d_mo_call_86 hZ kc_157 (mt_refuses hZ _) (fun x F8 B8 h => ?_)
      obtain ⟨hx, e1, e2⟩ := h
      subst F8
      subst B8
      refine ev_ifeq 89 94 d_mo_call_89 (fun c89 => ?_) (fun c89 => ?_)
      · exact absurd c89 (mo_rk hx (by decide))
      · refine ev_iconst_0 92 d_mo_call_92 ?_
        refine ev_iret 93 d_mo_call_93 rfl ?_
        exact ⟨_, _, _, rfl, rfl, Or.inl ⟨c32, rfl, rfl, mo_sw.rf _ _⟩⟩
  · refine ev_iload_1 4 d_mo_call_4 ?_
    refine ev_aload_0 5 d_mo_call_5 ?_
    refine mo_geti 6 25 d_mo_call_6 lk_203 ?_
    refine ev_icmpge 9 24 d_mo_call_9 (fun c9 => ?_) (fun c9 => ?_)
    · refine ev_iconst_0 24 d_mo_call_24 ?_
      refine ev_istore_4 25 d_mo_call_25 ?_
      refine ev_aload_0 27 d_mo_call_27 ?_
      refine ev_aload_0 28 d_mo_call_28 ?_
      refine mo_geti 29 29 d_mo_call_29 lk_208 ?_
      refine ev_ifne 32 39 d_mo_call_32 (fun c32 => ?_) (fun c32 => ?_)
      · replace c32 : ¬ F 29 = 0 := c32
        refine ev_iload_4 39 d_mo_call_39 ?_
        refine ev_ifne 41 48 d_mo_call_41 (fun c41 => ?_) (fun c41 => ?_)
        · exact absurd rfl c41
        · refine ev_iconst_2 44 d_mo_call_44 ?_
          refine ev_goto 45 86 d_mo_call_45 ?_
          refine mo_calli1 86 d_mo_call_86 hZ kc_157 (mt_refuses hZ _) (fun x F8 B8 h => ?_)
          obtain ⟨hx, e1, e2⟩ := h
          subst F8
          subst B8
          refine ev_ifeq 89 94 d_mo_call_89 (fun c89 => ?_) (fun c89 => ?_)
          · exact absurd c89 (mo_rk hx (by decide))
          · refine ev_iconst_0 92 d_mo_call_92 ?_
            refine ev_iret 93 d_mo_call_93 rfl ?_
            exact ⟨_, _, _, rfl, rfl, Or.inr (Or.inl ⟨c32, fun z => z.1.2 c9, rfl, rfl, mo_sw.rf _ _⟩)⟩
      · replace c32 : F 29 = 0 := c32
        refine ev_iconst_1 35 d_mo_call_35 ?_
        refine ev_goto 36 86 d_mo_call_36 ?_
        refine mo_calli1 86 d_mo_call_86 hZ kc_157 (mt_refuses hZ _) (fun x F8 B8 h => ?_)
        obtain ⟨hx, e1, e2⟩ := h
        subst F8
        subst B8
        refine ev_ifeq 89 94 d_mo_call_89 (fun c89 => ?_) (fun c89 => ?_)
        · exact absurd c89 (mo_rk hx (by decide))
        · refine ev_iconst_0 92 d_mo_call_92 ?_
          refine ev_iret 93 d_mo_call_93 rfl ?_
          exact ⟨_, _, _, rfl, rfl, Or.inl ⟨c32, rfl, rfl, mo_sw.rf _ _⟩⟩
    · refine ev_aload_0 12 d_mo_call_12 ?_
      refine ev_iload_2 13 d_mo_call_13 ?_
      refine mo_calli1 14 d_mo_call_14 hZ kc_150 (mt_isType hZ _) (fun y F1 B1 h => ?_)
      obtain ⟨hy, e1, e2⟩ := h
      subst F1
      subst B1
      refine ev_ifeq 17 24 d_mo_call_17 (fun c17 => ?_) (fun c17 => ?_)
      · refine ev_iconst_0 24 d_mo_call_24 ?_
        refine ev_istore_4 25 d_mo_call_25 ?_
        refine ev_aload_0 27 d_mo_call_27 ?_
        refine ev_aload_0 28 d_mo_call_28 ?_
        refine mo_geti 29 29 d_mo_call_29 lk_208 ?_
        refine ev_ifne 32 39 d_mo_call_32 (fun c32 => ?_) (fun c32 => ?_)
        · replace c32 : ¬ F 29 = 0 := c32
          refine ev_iload_4 39 d_mo_call_39 ?_
          refine ev_ifne 41 48 d_mo_call_41 (fun c41 => ?_) (fun c41 => ?_)
          · exact absurd rfl c41
          · refine ev_iconst_2 44 d_mo_call_44 ?_
            refine ev_goto 45 86 d_mo_call_45 ?_
            refine mo_calli1 86 d_mo_call_86 hZ kc_157 (mt_refuses hZ _) (fun x F8 B8 h => ?_)
            obtain ⟨hx, e1, e2⟩ := h
            subst F8
            subst B8
            refine ev_ifeq 89 94 d_mo_call_89 (fun c89 => ?_) (fun c89 => ?_)
            · exact absurd c89 (mo_rk hx (by decide))
            · refine ev_iconst_0 92 d_mo_call_92 ?_
              refine ev_iret 93 d_mo_call_93 rfl ?_
              exact ⟨_, _, _, rfl, rfl, Or.inr (Or.inl ⟨c32, fun z => mo_b0 hy c17 z.2, rfl, rfl, mo_sw.rf _ _⟩)⟩
        · replace c32 : F 29 = 0 := c32
          refine ev_iconst_1 35 d_mo_call_35 ?_
          refine ev_goto 36 86 d_mo_call_36 ?_
          refine mo_calli1 86 d_mo_call_86 hZ kc_157 (mt_refuses hZ _) (fun x F8 B8 h => ?_)
          obtain ⟨hx, e1, e2⟩ := h
          subst F8
          subst B8
          refine ev_ifeq 89 94 d_mo_call_89 (fun c89 => ?_) (fun c89 => ?_)
          · exact absurd c89 (mo_rk hx (by decide))
          · refine ev_iconst_0 92 d_mo_call_92 ?_
            refine ev_iret 93 d_mo_call_93 rfl ?_
            exact ⟨_, _, _, rfl, rfl, Or.inl ⟨c32, rfl, rfl, mo_sw.rf _ _⟩⟩
      · refine ev_iconst_1 20 d_mo_call_20 ?_
        refine ev_goto 21 25 d_mo_call_21 ?_
        refine ev_istore_4 25 d_mo_call_25 ?_
        refine ev_aload_0 27 d_mo_call_27 ?_
        refine ev_aload_0 28 d_mo_call_28 ?_
        refine mo_geti 29 29 d_mo_call_29 lk_208 ?_
        refine ev_ifne 32 39 d_mo_call_32 (fun c32 => ?_) (fun c32 => ?_)
        · replace c32 : ¬ F 29 = 0 := c32
          refine ev_iload_4 39 d_mo_call_39 ?_
          refine ev_ifne 41 48 d_mo_call_41 (fun c41 => ?_) (fun c41 => ?_)
          · obtain ⟨ff, hff, rfl⟩ := n_typ hNF (show NF ≤ 32 by omega) ⟨c1, c9⟩
            obtain ⟨tt, htt, rfl⟩ := n_typ hNT hW.1 (mo_b1 hy c17)
            refine ev_aload_0 48 d_mo_call_48 ?_
            refine ev_iload_2 49 d_mo_call_49 ?_
            refine ev_aload_0 50 d_mo_call_50 ?_
            refine mo_getr 51 21 27 d_mo_call_51 lk_74 ?_
            refine ev_iload_1 54 d_mo_call_54 ?_
            refine mo_aldn (j := ff) 55 21 27 d_mo_call_55 (by show ff < 12; omega) ?_
            refine ev_topi (nI (ar ff)) (show B 27 ff = nI (ar ff) from (hfn ff hff).2.2.1) ?_
            refine mo_calli2 56 d_mo_call_56 hZ kc_194 (mt_misfit hZ tt (ar ff) NT ct dp pt hW htt (hfn ff hff).2.2.2.1) (fun y9 F9 B9 h9 => ?_)
            obtain ⟨hm9, ⟨w, e9⟩, hs⟩ := h9
            subst F9
            have e15 : B9 15 = B 15 := hs.1 15 (by omega)
            have e26 : B9 26 = B 26 := hs.1 26 (by omega)
            have e27 : B9 27 = B 27 := hs.1 27 (by omega)
            have e30 : B9 30 = B 30 := hs.1 30 (by omega)
            refine ev_ifle 59 66 d_mo_call_59 (fun c59 => ?_) (fun c59 => ?_)
            · have hnb : nb_v (nb_r B ct pt 5 tt (ar ff) 0) = 0 := by
                rw [hm9] at c59
                exact nb_z c59 (by have h1 := nb_bd hW 5 tt (ar ff) 0 htt (hfn ff hff).2.2.2.1; have h2 := nb_vw (nb_r B ct pt 5 tt (ar ff) 0); omega)
              refine ev_aload_0 66 d_mo_call_66 ?_
              refine mo_getr 67 11 15 d_mo_call_67 lk_43 ?_
              refine ev_aload_0 70 d_mo_call_70 ?_
              refine mo_getr 71 20 26 d_mo_call_71 lk_71 ?_
              refine ev_iload_1 74 d_mo_call_74 ?_
              refine mo_aldn (j := ff) 75 20 26 d_mo_call_75 (by show ff < 12; omega) ?_
              refine ev_topi (nI (hm ff)) (show B9 26 ff = nI (hm ff) by rw [e26]; exact (hfn ff hff).1) ?_
              refine mo_aldn (j := hm ff) 76 11 15 d_mo_call_76 (by show hm ff < 6; exact (hfn ff hff).2.1) ?_
              refine ev_iconst_1 77 d_mo_call_77 ?_
              refine ev_icmple 78 85 d_mo_call_78 (fun c78 => ?_) (fun c78 => ?_)
              · replace c78 : B 15 (hm ff) ≤ 1 := by rw [← e15]; exact c78
                refine ev_iconst_0 85 d_mo_call_85 ?_
                refine mo_calli1 86 d_mo_call_86 hZ kc_157 (mt_refuses hZ _) (fun x F8 B8 h => ?_)
                obtain ⟨hx, e1, e2⟩ := h
                subst F8
                subst B8
                refine ev_ifeq 89 94 d_mo_call_89 (fun c89 => ?_) (fun c89 => ?_)
                · have hL0 : 0 < Lv := Nat.pos_of_ne_zero (fun z => c32 (by rw [hLv, z]; rfl))
                  have hl1 : F 29 - 1 = nI (Lv - 1) := by rw [hLv, n_s1 hL0]
                  refine ev_aload_0 94 d_mo_call_94 ?_
                  refine mo_getr 95 23 30 d_mo_call_95 lk_80 ?_
                  refine ev_aload_0 98 d_mo_call_98 ?_
                  refine mo_geti 99 29 d_mo_call_99 lk_208 ?_
                  refine ev_iconst_1 102 d_mo_call_102 ?_
                  refine ev_isub 103 d_mo_call_103 ?_
                  refine ev_topi (nI (Lv - 1)) (by exact hl1) ?_
                  refine mo_aldn (j := Lv - 1) 104 23 30 d_mo_call_104 (by show Lv - 1 < 6; omega) ?_
                  refine ev_topi (nI (ru (Lv - 1))) (show B9 30 (Lv - 1) = nI (ru (Lv - 1)) by rw [e30]; exact (hru (Lv - 1) (by omega)).1) ?_
                  refine ev_istore_5 105 d_mo_call_105 ?_
                  refine ev_aload_0 107 d_mo_call_107 ?_
                  refine mo_getr 108 20 26 d_mo_call_108 lk_71 ?_
                  refine ev_iload_1 111 d_mo_call_111 ?_
                  refine mo_aldn (j := ff) 112 20 26 d_mo_call_112 (by show ff < 12; omega) ?_
                  refine ev_topi (nI (hm ff)) (show B9 26 ff = nI (hm ff) by rw [e26]; exact (hfn ff hff).1) ?_
                  refine ev_istore_6 113 d_mo_call_113 ?_
                  refine ev_aload_0 115 d_mo_call_115 ?_
                  refine ev_iconst_0 116 d_mo_call_116 ?_
                  refine mo_puti 117 52 d_mo_call_117 lp_260 ?_
                  refine ev_aload_0 120 d_mo_call_120 ?_
                  refine mo_getr 121 11 15 d_mo_call_121 lk_43 ?_
                  refine ev_iload_6 124 d_mo_call_124 ?_
                  refine mo_aldn (j := hm ff) 126 11 15 d_mo_call_126 (by show hm ff < 6; exact (hfn ff hff).2.1) ?_
                  refine ev_iconst_1 127 d_mo_call_127 ?_
                  refine ev_icmpne 128 141 d_mo_call_128 (fun c128 => ?_) (fun c128 => ?_)
                  · replace c128 : ¬ B 15 (hm ff) = 1 := by rw [← e15]; exact c128
                    refine ev_aload_0 141 d_mo_call_141 ?_
                    refine ev_iload_5 142 d_mo_call_142 ?_
                    refine ev_iload_2 144 d_mo_call_144 ?_
                    refine ev_iload_3 145 d_mo_call_145 ?_
                    refine ev_iload_6 146 d_mo_call_146 ?_
                    refine ev_aload_0 148 d_mo_call_148 ?_
                    refine mo_getr 149 21 27 d_mo_call_149 lk_74 ?_
                    refine ev_iload_1 152 d_mo_call_152 ?_
                    refine mo_aldn (j := ff) 153 21 27 d_mo_call_153 (by show ff < 12; omega) ?_
                    refine ev_topi (nI (ar ff)) (show B9 27 ff = nI (ar ff) by rw [e27]; exact (hfn ff hff).2.2.1) ?_
                    obtain ⟨tW, tD, tS, tR, t8⟩ := ty_all hs hW hD hS (ft_ok hW) h8
                    have hJ := (hfn ff hff).2.1
                    refine mo_calli5 154 d_mo_call_154 hZ kc_287 (mt_pass (F := upd (upd (upd F 36 w) 0 0) 52 0) (B := B9) hZ (ru (Lv - 1)) tt at_ (hm ff) (ar ff) (hru (Lv - 1) (by omega)).2 hJ NT ct dp pt sz al (ft_R B NT ct dp pt) tW tD tR tS htt (hfn ff hff).2.2.2.1 (ft_of hW htt (hfn ff hff).2.2.2.1 hnb) t8 (by rw [hs.1 16 (by omega), hs.1 17 (by omega)]; exact hG) (hp (hm ff)) (by rw [hs.1 14 (by omega)]; exact (hhp _ hJ).1) (hhp _ hJ).2) (fun y F2 B2 hps => ?_)
                    obtain ⟨k1, k2, Fr, hFr, hFr2, hfo⟩ := ps_kp (fun q hq => (rd_it0 tW tD tR tS t8 (hru (Lv - 1) (by omega)).2 htt (hfn ff hff).2.2.2.1 (ft_of hW htt (hfn ff hff).2.2.2.1 hnb) hq).2.2.2.2.1) hps
                    have h29 : F2 29 = F 29 := (k1 29 (by decide) (by decide) (by decide) (by decide) (by decide)).trans rfl
                    have h30 : B2 30 = B 30 := (k2 30 (by unfold ps_un; omega)).trans e30
                    refine ev_istore_7 157 d_mo_call_157 ?_
                    refine ev_aload_0 159 d_mo_call_159 ?_
                    refine mo_geti 160 54 d_mo_call_160 lk_224 ?_
                    refine ev_ifle 163 204 d_mo_call_163 (fun c163 => ?_) (fun c163 => ?_)
                    · refine ev_aload_0 204 d_mo_call_204 ?_
                      refine ev_iload_6 205 d_mo_call_205 ?_
                      refine ev_iload_1 207 d_mo_call_207 ?_
                      refine ev_iload_7 208 d_mo_call_208 ?_
                      refine mo_callv3 210 d_mo_call_210 hZ kc_211 (mt_push hZ (nI (hm ff)) (nI ff) y (by rw [h29, hLv]; exact vp_in_nI (hpu (hm ff) hJ c78 c128) (by decide)) (vp_in_nI hJ (by decide))) (fun F1 B1 h9 => ?_)
                      obtain ⟨e1, e2⟩ := h9
                      refine ev_iconst_0 213 d_mo_call_213 ?_
                      refine ev_iret 214 d_mo_call_214 rfl ?_
                      exact ⟨_, _, _, rfl, rfl, Or.inr (Or.inr (Or.inr (Or.inr (Or.inr ⟨ff, tt, hff, htt, rfl, rfl, c32, hnb, c78, c128, w, B9, hs, ⟨y, F2, B2, hps, Or.inl ⟨c163, rfl, by rw [h29, hLv, nI_clamp (show Lv < 2 ^ 31 by omega), nI_clamp (show hm ff < 2 ^ 31 by omega)] at e2; exact ⟨e1, e2⟩⟩⟩⟩))))⟩
                    · refine ev_aload_0 166 d_mo_call_166 ?_
                      refine ev_aload_0 167 d_mo_call_167 ?_
                      refine mo_geti 168 54 d_mo_call_168 lk_224 ?_
                      refine ev_aload_0 171 d_mo_call_171 ?_
                      refine mo_geti 172 55 d_mo_call_172 lk_227 ?_
                      refine ev_aload_0 175 d_mo_call_175 ?_
                      refine mo_geti 176 54 d_mo_call_176 lk_224 ?_
                      refine ev_bipush (11) 179 d_mo_call_179 (by decide) ?_
                      refine ev_icmpeq 181 193 d_mo_call_181 (fun c181 => ?_) (fun c181 => ?_)
                      · refine ev_iload_6 193 d_mo_call_193 ?_
                        refine ev_goto 195 200 d_mo_call_195 ?_
                        refine mo_calli3 200 d_mo_call_200 hZ kc_284 (mt_trapped (F := F2) (B := B2) hZ (F2 54) (F2 55) (hm ff) Fr Lv hFr hFr2 (fun k hk => by obtain ⟨h, q1, q2, q3⟩ := hfo k hk; rw [q3]; exact vp_in_nI (by omega) (by decide)) (h29.trans hLv) hL6 (fun k hk => by rw [h30, (hru k hk).1]; exact vp_in_nI (hru k hk).2 (by decide)) hJ) (fun x9 F1 B1 h9 => ?_)
                        obtain ⟨hx9, e1, e2⟩ := h9
                        subst F1
                        subst B1
                        skip
                        refine ev_iret 203 d_mo_call_203 rfl ?_
                        exact ⟨_, _, _, rfl, rfl, Or.inr (Or.inr (Or.inr (Or.inr (Or.inr ⟨ff, tt, hff, htt, rfl, rfl, c32, hnb, c78, c128, w, B9, hs, ⟨y, F2, B2, hps, Or.inr ⟨c163, hx9, Fr, _, hFr, hFr2, (fun _ => rfl), (fun z => absurd (Or.inl c181) z), rfl, rfl⟩⟩⟩))))⟩
                      · refine ev_aload_0 184 d_mo_call_184 ?_
                        refine mo_geti 185 54 d_mo_call_185 lk_224 ?_
                        refine ev_bipush (12) 188 d_mo_call_188 (by decide) ?_
                        refine ev_icmpne 190 198 d_mo_call_190 (fun c190 => ?_) (fun c190 => ?_)
                        · refine ev_iload_5 198 d_mo_call_198 ?_
                          refine mo_calli3 200 d_mo_call_200 hZ kc_284 (mt_trapped (F := F2) (B := B2) hZ (F2 54) (F2 55) (ru (Lv - 1)) Fr Lv hFr hFr2 (fun k hk => by obtain ⟨h, q1, q2, q3⟩ := hfo k hk; rw [q3]; exact vp_in_nI (by omega) (by decide)) (h29.trans hLv) hL6 (fun k hk => by rw [h30, (hru k hk).1]; exact vp_in_nI (hru k hk).2 (by decide)) (hru (Lv - 1) (by omega)).2) (fun x9 F1 B1 h9 => ?_)
                          obtain ⟨hx9, e1, e2⟩ := h9
                          subst F1
                          subst B1
                          skip
                          refine ev_iret 203 d_mo_call_203 rfl ?_
                          exact ⟨_, _, _, rfl, rfl, Or.inr (Or.inr (Or.inr (Or.inr (Or.inr ⟨ff, tt, hff, htt, rfl, rfl, c32, hnb, c78, c128, w, B9, hs, ⟨y, F2, B2, hps, Or.inr ⟨c163, hx9, Fr, _, hFr, hFr2, (fun z => absurd z (fun y => y.elim c181 c190)), (fun _ => rfl), rfl, rfl⟩⟩⟩))))⟩
                        · refine ev_iload_6 193 d_mo_call_193 ?_
                          refine ev_goto 195 200 d_mo_call_195 ?_
                          refine mo_calli3 200 d_mo_call_200 hZ kc_284 (mt_trapped (F := F2) (B := B2) hZ (F2 54) (F2 55) (hm ff) Fr Lv hFr hFr2 (fun k hk => by obtain ⟨h, q1, q2, q3⟩ := hfo k hk; rw [q3]; exact vp_in_nI (by omega) (by decide)) (h29.trans hLv) hL6 (fun k hk => by rw [h30, (hru k hk).1]; exact vp_in_nI (hru k hk).2 (by decide)) hJ) (fun x9 F1 B1 h9 => ?_)
                          obtain ⟨hx9, e1, e2⟩ := h9
                          subst F1
                          subst B1
                          skip
                          refine ev_iret 203 d_mo_call_203 rfl ?_
                          exact ⟨_, _, _, rfl, rfl, Or.inr (Or.inr (Or.inr (Or.inr (Or.inr ⟨ff, tt, hff, htt, rfl, rfl, c32, hnb, c78, c128, w, B9, hs, ⟨y, F2, B2, hps, Or.inr ⟨c163, hx9, Fr, _, hFr, hFr2, (fun _ => rfl), (fun z => absurd (Or.inr c190) z), rfl, rfl⟩⟩⟩))))⟩
                  · replace c128 : B 15 (hm ff) = 1 := by rw [← e15]; exact c128
                    refine ev_aload_0 131 d_mo_call_131 ?_
                    refine ev_bipush (14) 132 d_mo_call_132 (by decide) ?_
                    refine ev_iload_3 134 d_mo_call_134 ?_
                    refine ev_iload_5 135 d_mo_call_135 ?_
                    refine mo_calli3 137 d_mo_call_137 hZ kc_284 (mt_trapped (B := B9) hZ 14 at_ (ru (Lv - 1)) 0 Lv rfl (by omega) (fun k hk => absurd hk (Nat.not_lt_zero k)) hLv hL6 (fun k hk => by rw [e30, (hru k hk).1]; exact vp_in_nI (hru k hk).2 (by decide)) (hru (Lv - 1) (by omega)).2) (fun x9 F1 B1 h9 => ?_)
                    obtain ⟨hx9, e1, e2⟩ := h9
                    subst F1
                    subst B1
                    refine ev_iret 140 d_mo_call_140 rfl ?_
                    exact ⟨_, _, _, rfl, rfl, Or.inr (Or.inr (Or.inr (Or.inr (Or.inl ⟨ff, tt, hff, htt, rfl, rfl, c32, hnb, c128, hx9, ⟨w, B9, hs, rfl, rfl⟩⟩))))⟩
                · exact absurd (mo_r0 hx) c89
              · replace c78 : ¬ B 15 (hm ff) ≤ 1 := by rw [← e15]; exact c78
                refine ev_iconst_4 81 d_mo_call_81 ?_
                refine ev_goto 82 86 d_mo_call_82 ?_
                refine mo_calli1 86 d_mo_call_86 hZ kc_157 (mt_refuses hZ _) (fun x F8 B8 h => ?_)
                obtain ⟨hx, e1, e2⟩ := h
                subst F8
                subst B8
                refine ev_ifeq 89 94 d_mo_call_89 (fun c89 => ?_) (fun c89 => ?_)
                · exact absurd c89 (mo_rk hx (by decide))
                · refine ev_iconst_0 92 d_mo_call_92 ?_
                  refine ev_iret 93 d_mo_call_93 rfl ?_
                  exact ⟨_, _, _, rfl, rfl, Or.inr (Or.inr (Or.inr (Or.inl ⟨ff, tt, hff, htt, rfl, rfl, c32, hnb, c78, rfl, ⟨w, rfl⟩, hs⟩)))⟩
            · have hnb : ¬ nb_v (nb_r B ct pt 5 tt (ar ff) 0) = 0 := fun z => c59 (by rw [hm9, z]; decide)
              refine ev_iconst_3 62 d_mo_call_62 ?_
              refine ev_goto 63 86 d_mo_call_63 ?_
              refine mo_calli1 86 d_mo_call_86 hZ kc_157 (mt_refuses hZ _) (fun x F8 B8 h => ?_)
              obtain ⟨hx, e1, e2⟩ := h
              subst F8
              subst B8
              refine ev_ifeq 89 94 d_mo_call_89 (fun c89 => ?_) (fun c89 => ?_)
              · exact absurd c89 (mo_rk hx (by decide))
              · refine ev_iconst_0 92 d_mo_call_92 ?_
                refine ev_iret 93 d_mo_call_93 rfl ?_
                exact ⟨_, _, _, rfl, rfl, Or.inr (Or.inr (Or.inl ⟨ff, tt, hff, htt, rfl, rfl, c32, hnb, rfl, ⟨w, rfl⟩, hs⟩))⟩
          · exact absurd c41 (by decide)
        · replace c32 : F 29 = 0 := c32
          refine ev_iconst_1 35 d_mo_call_35 ?_
          refine ev_goto 36 86 d_mo_call_36 ?_
          refine mo_calli1 86 d_mo_call_86 hZ kc_157 (mt_refuses hZ _) (fun x F8 B8 h => ?_)
          obtain ⟨hx, e1, e2⟩ := h
          subst F8
          subst B8
          refine ev_ifeq 89 94 d_mo_call_89 (fun c89 => ?_) (fun c89 => ?_)
          · exact absurd c89 (mo_rk hx (by decide))
          · refine ev_iconst_0 92 d_mo_call_92 ?_
            refine ev_iret 93 d_mo_call_93 rfl ?_
            exact ⟨_, _, _, rfl, rfl, Or.inl ⟨c32, rfl, rfl, mo_sw.rf _ _⟩⟩
