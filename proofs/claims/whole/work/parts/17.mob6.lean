/-- the first of the n places from p on that is not in the memory -/
def mo_rg (p : Int32) : Nat → Option Int32
  | 0 => none
  | n + 1 => match mo_rg p n with
    | some q => some q
    | none => if p + nI n < 0 ∨ 255 < p + nI n then some (p + nI n) else none
/-- the bytes from p on, the lowest first -/
def mo_nb (f : Nat → Int32) (i : Nat) (p : Int32) : Nat → Int32
  | 0 => 0
  | n + 1 => mo_nb f i p n ||| (f (256 * nI i + (p + nI n)).toNatClampNeg <<< ((8 * nI n) &&& 31))
/-- n of the bytes were looked at -/
def mo_iv (F : Nat → Int32) (p : Int32) (n : Nat) (Fc : Nat → Int32) : Prop := (mo_rg p n = none ∧ Fc = F) ∨ (∃ q, mo_rg p n = some q ∧ Fc = mo_fl F 1 q)
def mo_bp (F : Nat → Int32) (B : Nat → Nat → Int32) (i p x : Int32) (F1 : Nat → Int32) : Prop := (0 < F 54 ∧ x = 0 ∧ F1 = F) ∨ (¬ 0 < F 54 ∧ (p < 0 ∨ 255 < p) ∧ x = 0 ∧ F1 = mo_fl F 1 p) ∨ (¬ 0 < F 54 ∧ ¬ p < 0 ∧ ¬ 255 < p ∧ x = B 13 (256 * i + p).toNatClampNeg ∧ F1 = F)
theorem mo_fl1 {F : Nat → Int32} (h : F 54 = 0) (c p : Int32) : mo_fl F c p 54 = c := by
  rw [mo_fl, if_pos h]; rfl
theorem mo_iv0 (F : Nat → Int32) (p : Int32) : mo_iv F p 0 F := Or.inl ⟨rfl, rfl⟩
theorem mo_ivs {F Fc F1 : Nat → Int32} {B : Nat → Nat → Int32} {p x i : Int32} {n : Nat} (h0 : F 54 = 0) (hI : mo_iv F p n Fc) (hb : mo_bp Fc B i (p + nI n) x F1) : mo_iv F p (n + 1) F1 ∧ (mo_rg p (n + 1) = none → x = B 13 (256 * i + (p + nI n)).toNatClampNeg) := by
  rcases hI with ⟨hr, rfl⟩ | ⟨q, hr, rfl⟩
  · have n0 : ¬ 0 < Fc 54 := by rw [h0]; decide
    rcases hb with ⟨z, -⟩ | ⟨-, hq, -, rfl⟩ | ⟨-, a, b, hx, rfl⟩
    · exact absurd z n0
    · have e : mo_rg p (n + 1) = some (p + nI n) := by rw [mo_rg, hr]; exact if_pos hq
      exact ⟨Or.inr ⟨_, e, rfl⟩, fun z => by rw [e] at z; cases z⟩
    · have e : mo_rg p (n + 1) = none := by rw [mo_rg, hr]; exact if_neg (fun z => z.elim a b)
      exact ⟨Or.inl ⟨e, rfl⟩, fun _ => hx⟩
  · have e : mo_rg p (n + 1) = some q := by rw [mo_rg, hr]
    have n0 : 0 < mo_fl F 1 q 54 := by rw [mo_fl1 h0]; decide
    rcases hb with ⟨-, -, rfl⟩ | ⟨z, -⟩ | ⟨z, -⟩
    · exact ⟨Or.inr ⟨q, e, rfl⟩, fun z => by rw [e] at z; cases z⟩
    · exact absurd n0 z
    · exact absurd n0 z
theorem mo_ivn {F Fc : Nat → Int32} {p : Int32} {n : Nat} (h0 : F 54 = 0) (hI : mo_iv F p n Fc) (h : Fc 54 ≤ 0) : mo_rg p n = none ∧ Fc = F := by
  rcases hI with h1 | ⟨q, hr, rfl⟩
  · exact h1
  · rw [mo_fl1 h0] at h; exact absurd h (by decide)
theorem mo_ivb {F Fc : Nat → Int32} {p : Int32} {n : Nat} (h0 : F 54 = 0) (hI : mo_iv F p n Fc) (h : ¬ Fc 54 ≤ 0) : ∃ q, mo_rg p n = some q ∧ Fc = mo_fl F 1 q := by
  rcases hI with ⟨-, rfl⟩ | h1
  · rw [h0] at h; exact absurd (by decide) h
  · exact h1
theorem mo_bb {ii : Nat} (hi : ii < 6) (p : Int32) (h1 : ¬ p < 0) (h2 : ¬ 255 < p) : vp_in (256 * nI ii + p) 1536 := by
  obtain ⟨a, ha, rfl⟩ := n_r255 h1 (Int32.not_lt.mp h2)
  rw [n_256, pk_mul, nI_add]
  exact vp_in_nI (by omega) (by decide)
theorem mo_rg_le {p : Int32} {n : Nat} : ∀ k, mo_rg p (n + k) = none → mo_rg p n = none := by
  intro k
  induction k with
  | zero => exact fun h => h
  | succ k ih =>
    intro h
    apply ih
    rw [Nat.add_succ, mo_rg] at h
    cases e : mo_rg p (n + k) with
    | none => rfl
    | some q => rw [e] at h; cases h

theorem mo_rg_up {p q : Int32} {n : Nat} (h : mo_rg p n = some q) : ∀ k, n ≤ k → mo_rg p k = some q := by
  intro k hk
  obtain ⟨j, rfl⟩ : ∃ j, k = n + j := ⟨k - n, by omega⟩
  induction j with
  | zero => exact h
  | succ j ih => rw [Nat.add_succ, mo_rg, ih (by omega)]

set_option maxHeartbeats 4000000 in
set_option maxRecDepth 100000 in
theorem mt_number {l : Launch} {D : va_G} {tl : List (ClassId × FieldType)} {Z : (Nat → Prop) → State → Heap → Prop} {kI kZ : ClassId} {am : Nat → Nat} {F : Nat → Int32} {B : Nat → Nat → Int32} (hZ : ev_Zok Z) (ii : Nat) (p : Int32) (k : Nat) (hii : ii < 6) (hk : k ≤ 100) (h0 : F 54 = 0) : MT (mo_π l D cl_A kI kZ tl Z) m_number 0 0 [.ref (am 60), .int (nI ii), .int p, .int (nI k)] (mo_W mo_ci am kI kZ F B) (mo_qi am kI kZ (fun x F1 B1 => ((mo_rg p k = none ∧ F1 = F ∧ x = mo_nb (B 13) ii p k) ∨ (∃ q, mo_rg p k = some q ∧ F1 = mo_fl F 1 q)) ∧ B1 = B)) := by
  refine mt_of mo_pl rfl (Nat.le_of_ble_eq_true rfl) (ev_eq (lv' := [some (.ref (am 60)), some (.int (nI ii)), some (.int p), some (.int (nI k)), none, none]) ?_)
  have L6 : ∀ (m n : Nat) (Fc : Nat → Int32) (v : Int32), k - n < m → n ≤ k → mo_iv F p n Fc → (mo_rg p n = none → v = mo_nb (B 13) ii p n) → EV (mo_π l D cl_A kI kZ tl Z) m_number (ev_E (mo_π l D cl_A kI kZ tl Z) 0 0 (mo_qi am kI kZ (fun x F1 B1 => ((mo_rg p k = none ∧ F1 = F ∧ x = mo_nb (B 13) ii p k) ∨ (∃ q, mo_rg p k = some q ∧ F1 = mo_fl F 1 q)) ∧ B1 = B))) 0 0 6 [some (.ref (am 60)), some (.int (nI ii)), some (.int p), some (.int (nI k)), some (.int v), some (.int (nI n))] [] (mo_W mo_ci am kI kZ Fc B) := by
    intro m
    induction m with
    | zero => intro n Fc v h; omega
    | succ m ih =>
      intro n Fc v hm hn hI hv
      refine ev_iload_5 6 d_mo_number_6 ?_
      refine ev_iload_3 8 d_mo_number_8 ?_
      refine ev_icmpge 9 45 d_mo_number_9 (fun c9 => ?_) (fun c9 => ?_)
      · refine ev_iload_4 45 d_mo_number_45 ?_
        refine ev_iret 47 d_mo_number_47 rfl ?_
        have h9 := n_le k n c9
        have en : n = k := by omega
        subst n
        rcases hI with ⟨a, b⟩ | ⟨q, a, b⟩
        · exact ⟨_, _, _, rfl, rfl, Or.inl ⟨a, b, hv a⟩, rfl⟩
        · exact ⟨_, _, _, rfl, rfl, Or.inr ⟨q, a, b⟩, rfl⟩
      · have h9 := n_nle k n c9
        refine ev_aload_0 12 d_mo_number_12 ?_
        refine mo_geti 13 54 d_mo_number_13 lk_224 ?_
        refine ev_ifne 16 45 d_mo_number_16 (fun c16 => ?_) (fun c16 => ?_)
        · refine ev_iload_4 45 d_mo_number_45 ?_
          refine ev_iret 47 d_mo_number_47 rfl ?_
          rcases hI with ⟨a, b⟩ | ⟨q, a, b⟩
          · exact absurd (b ▸ h0) c16
          · exact ⟨_, _, _, rfl, rfl, Or.inr ⟨q, mo_rg_up a k (by omega), b⟩, rfl⟩
        · refine ev_iload_4 19 d_mo_number_19 ?_
          refine ev_aload_0 21 d_mo_number_21 ?_
          refine ev_iload_1 22 d_mo_number_22 ?_
          refine ev_iload_2 23 d_mo_number_23 ?_
          refine ev_iload_5 24 d_mo_number_24 ?_
          refine ev_iadd 26 d_mo_number_26 ?_
          refine mo_calli2 27 d_mo_number_27 hZ kc_234 (mt_byteAt hZ (nI ii) _ (mo_bb hii _)) (fun y F1 B1 h => ?_)
          obtain ⟨hb, e2⟩ := h
          subst B1
          have hs := mo_ivs h0 hI hb
          refine ev_bipush (8) 30 d_mo_number_30 (by decide) ?_
          refine ev_iload_5 32 d_mo_number_32 ?_
          refine ev_imul 34 d_mo_number_34 ?_
          refine ev_ishl 35 d_mo_number_35 ?_
          refine ev_ior 36 d_mo_number_36 ?_
          refine ev_istore_4 37 d_mo_number_37 ?_
          refine ev_iinc_5 39 d_mo_number_39 ?_
          refine ev_goto 42 6 d_mo_number_42 ?_
          exact ev_eq (ih (n + 1) F1 (v ||| (y <<< ((8 * nI n) &&& 31))) (by omega) (by omega) hs.1 (fun z => by rw [hs.2 z, hv (mo_rg_le 1 z)]; rfl)) (h1 := by rw [n_i1])
  refine ev_iconst_0 0 d_mo_number_0 ?_
  refine ev_istore_4 1 d_mo_number_1 ?_
  refine ev_iconst_0 3 d_mo_number_3 ?_
  refine ev_istore_5 4 d_mo_number_4 ?_
  exact L6 (k + 1) 0 F 0 (by omega) (by omega) (mo_iv0 F p) (fun _ => rfl)

/-- what reading a plain value of type t at p of instance ii comes to: a trap's code and place, or none -/
def mo_rp (B : Nat → Nat → Int32) (ii tt : Nat) (p : Int32) : Option (Int32 × Int32) := match mo_rg p (B 4 tt).toNatClampNeg with
  | some q => some (1, q)
  | none => if (B 2 tt = 0 ∧ 1 < B 13 (256 * nI ii + p).toNatClampNeg) ∨ (B 2 tt = 7 ∧ ¬ B 13 (256 * nI ii + p).toNatClampNeg < B 3 tt) then some (2, p)
    else if B 2 tt = 5 ∧ (mo_nb (B 13) ii p 4 < 0 ∨ 1114111 < mo_nb (B 13) ii p 4 ∨ (55295 < mo_nb (B 13) ii p 4 ∧ mo_nb (B 13) ii p 4 < 57344)) then some (3, p) else none
def mo_fo (F : Nat → Int32) (r : Option (Int32 × Int32)) : Nat → Int32 := match r with
  | none => F
  | some q => mo_fl F q.1 q.2
theorem n_a0 (x : Int32) : x + nI 0 = x := by
  rw [nI_0]; exact Int32.add_zero x
theorem mo_rp1 {B : Nat → Nat → Int32} {ii tt sz : Nat} {p q : Int32} (hs : B 4 tt = nI sz) (h8 : sz ≤ 8) (h : mo_rg p sz = some q) : mo_rp B ii tt p = some (1, q) := by
  rw [mo_rp, hs, nI_clamp (by omega), h]
theorem mo_rp0 {B : Nat → Nat → Int32} {ii tt sz : Nat} {p : Int32} (hs : B 4 tt = nI sz) (h8 : sz ≤ 8) (h : mo_rg p sz = none) : mo_rp B ii tt p = if (B 2 tt = 0 ∧ 1 < B 13 (256 * nI ii + p).toNatClampNeg) ∨ (B 2 tt = 7 ∧ ¬ B 13 (256 * nI ii + p).toNatClampNeg < B 3 tt) then some (2, p)
    else if B 2 tt = 5 ∧ (mo_nb (B 13) ii p 4 < 0 ∨ 1114111 < mo_nb (B 13) ii p 4 ∨ (55295 < mo_nb (B 13) ii p 4 ∧ mo_nb (B 13) ii p 4 < 57344)) then some (3, p) else none := by
  rw [mo_rp, hs, nI_clamp (by omega), h]

set_option maxHeartbeats 4000000 in
set_option maxRecDepth 100000 in
theorem mt_readPlain {l : Launch} {D : va_G} {tl : List (ClassId × FieldType)} {Z : (Nat → Prop) → State → Heap → Prop} {kI kZ : ClassId} {am : Nat → Nat} {F : Nat → Int32} {B : Nat → Nat → Int32} (hZ : ev_Zok Z) (ii : Nat) (tt : Nat) (p : Int32) (hii : ii < 6) (htt : tt < 32) (h0 : F 54 = 0) (sz : Nat) (hsz : B 4 tt = nI sz) (hs1 : 1 ≤ sz) (hs8 : sz ≤ 8) (hz5 : B 2 tt = 5 → sz = 4) : MT (mo_π l D cl_A kI kZ tl Z) m_readPlain 0 0 [.ref (am 60), .int (nI ii), .int (nI tt), .int p] (mo_W mo_ci am kI kZ F B) (mo_qv am kI kZ (fun F1 B1 => F1 = mo_fo F (mo_rp B ii tt p) ∧ B1 = B)) := by
  refine mt_of mo_pl rfl (Nat.le_of_ble_eq_true rfl) (ev_eq (lv' := [some (.ref (am 60)), some (.int (nI ii)), some (.int (nI tt)), some (.int p), none, none, none]) ?_)
  have L19 : ∀ (m n : Nat) (Fc : Nat → Int32) (fy : Int32), sz - n < m → 1 ≤ n → n ≤ sz → mo_iv F p n Fc → (mo_rg p n = none → fy = B 13 (256 * nI ii + p).toNatClampNeg) → EV (mo_π l D cl_A kI kZ tl Z) m_readPlain (ev_E (mo_π l D cl_A kI kZ tl Z) 0 0 (mo_qv am kI kZ (fun F1 B1 => F1 = mo_fo F (mo_rp B ii tt p) ∧ B1 = B))) 0 0 19 [some (.ref (am 60)), some (.int (nI ii)), some (.int (nI tt)), some (.int p), some (.int (B 2 tt)), some (.int fy), some (.int (nI n))] [] (mo_W mo_ci am kI kZ Fc B) := by
    intro m
    induction m with
    | zero => intro n Fc fy h; omega
    | succ m ih =>
      intro n Fc fy hm hn1 hn hI hfy
      refine ev_iload_6 19 d_mo_readPlain_19 ?_
      refine ev_aload_0 21 d_mo_readPlain_21 ?_
      refine mo_getr 22 2 4 d_mo_readPlain_22 lk_16 ?_
      refine ev_iload_2 25 d_mo_readPlain_25 ?_
      refine mo_aldn (j := tt) 26 2 4 d_mo_readPlain_26 (by exact htt) ?_
      refine ev_icmpge 27 46 d_mo_readPlain_27 (fun c27 => ?_) (fun c27 => ?_)
      · have h27 := n_le sz n c27 hsz
        have en : n = sz := by omega
        subst n
        refine ev_aload_0 46 d_mo_readPlain_46 ?_
        refine mo_geti 47 54 d_mo_readPlain_47 lk_224 ?_
        refine ev_ifle 50 54 d_mo_readPlain_50 (fun c50 => ?_) (fun c50 => ?_)
        · obtain ⟨hr, e1⟩ := mo_ivn h0 hI c50
          subst Fc
          replace hfy := hfy hr
          refine ev_iload_4 54 d_mo_readPlain_54 ?_
          refine ev_ifne 56 65 d_mo_readPlain_56 (fun c56 => ?_) (fun c56 => ?_)
          · refine ev_iload_4 65 d_mo_readPlain_65 ?_
            refine ev_bipush (7) 67 d_mo_readPlain_67 (by decide) ?_
            refine ev_icmpne 69 89 d_mo_readPlain_69 (fun c69 => ?_) (fun c69 => ?_)
            · refine ev_iload_4 89 d_mo_readPlain_89 ?_
              refine ev_iconst_5 91 d_mo_readPlain_91 ?_
              refine ev_icmpne 92 137 d_mo_readPlain_92 (fun c92 => ?_) (fun c92 => ?_)
              · refine ev_vret 137 d_mo_readPlain_137 rfl ?_
                exact ⟨_, _, rfl, rfl, by rw [mo_rp0 hsz hs8 hr, if_neg (fun z => z.elim (fun z => c56 z.1) (fun z => c69 z.1)), if_neg (fun z => c92 z.1)]; rfl, rfl⟩
              · refine ev_aload_0 95 d_mo_readPlain_95 ?_
                refine ev_iload_1 96 d_mo_readPlain_96 ?_
                refine ev_iload_3 97 d_mo_readPlain_97 ?_
                refine ev_iconst_4 98 d_mo_readPlain_98 ?_
                refine mo_calli3 99 d_mo_readPlain_99 hZ kc_240 (mt_number hZ ii p 4 hii (by decide) h0) (fun v F1 B1 h => ?_)
                obtain ⟨hv, e2⟩ := h
                subst B1
                have hs4 : sz = 4 := hz5 c92
                obtain ⟨e1, ev⟩ : F1 = F ∧ v = mo_nb (B 13) ii p 4 := by
                  rcases hv with ⟨-, a, b⟩ | ⟨q, a, -⟩
                  · exact ⟨a, b⟩
                  · rw [hs4] at hr; rw [hr] at a; cases a
                subst F1
                subst v
                refine ev_istore_6 102 d_mo_readPlain_102 ?_
                refine ev_iload_6 104 d_mo_readPlain_104 ?_
                refine ev_iflt 106 131 d_mo_readPlain_106 (fun c106 => ?_) (fun c106 => ?_)
                · refine ev_aload_0 131 d_mo_readPlain_131 ?_
                  refine ev_iconst_3 132 d_mo_readPlain_132 ?_
                  refine ev_iload_3 133 d_mo_readPlain_133 ?_
                  refine mo_callv2 134 d_mo_readPlain_134 hZ kc_230 (mt_fails hZ _ _) (fun F1 B1 h => ?_)
                  obtain ⟨e1, e2⟩ := h
                  subst F1
                  subst B1
                  refine ev_vret 137 d_mo_readPlain_137 rfl ?_
                  exact ⟨_, _, rfl, rfl, by rw [mo_rp0 hsz hs8 hr, if_neg (fun z => z.elim (fun z => c56 z.1) (fun z => c69 z.1)), if_pos ⟨c92, Or.inl c106⟩]; rfl, rfl⟩
                · refine ev_iload_6 109 d_mo_readPlain_109 ?_
                  refine ev_ldc (1114111) 111 d_mo_readPlain_111 kq_254 ?_
                  refine ev_icmpgt 113 131 d_mo_readPlain_113 (fun c113 => ?_) (fun c113 => ?_)
                  · refine ev_aload_0 131 d_mo_readPlain_131 ?_
                    refine ev_iconst_3 132 d_mo_readPlain_132 ?_
                    refine ev_iload_3 133 d_mo_readPlain_133 ?_
                    refine mo_callv2 134 d_mo_readPlain_134 hZ kc_230 (mt_fails hZ _ _) (fun F1 B1 h => ?_)
                    obtain ⟨e1, e2⟩ := h
                    subst F1
                    subst B1
                    refine ev_vret 137 d_mo_readPlain_137 rfl ?_
                    exact ⟨_, _, rfl, rfl, by rw [mo_rp0 hsz hs8 hr, if_neg (fun z => z.elim (fun z => c56 z.1) (fun z => c69 z.1)), if_pos ⟨c92, Or.inr (Or.inl c113)⟩]; rfl, rfl⟩
                  · refine ev_iload_6 116 d_mo_readPlain_116 ?_
                    refine ev_ldc (55295) 118 d_mo_readPlain_118 kq_255 ?_
                    refine ev_icmple 120 137 d_mo_readPlain_120 (fun c120 => ?_) (fun c120 => ?_)
                    · refine ev_vret 137 d_mo_readPlain_137 rfl ?_
                      exact ⟨_, _, rfl, rfl, by rw [mo_rp0 hsz hs8 hr, if_neg (fun z => z.elim (fun z => c56 z.1) (fun z => c69 z.1)), if_neg (fun z => z.2.elim c106 (fun z => z.elim c113 (fun z => absurd c120 (Int32.not_le.mpr z.1))))]; rfl, rfl⟩
                    · refine ev_iload_6 123 d_mo_readPlain_123 ?_
                      refine ev_ldcw (57344) 125 d_mo_readPlain_125 kq_256 ?_
                      refine ev_icmpge 128 137 d_mo_readPlain_128 (fun c128 => ?_) (fun c128 => ?_)
                      · refine ev_vret 137 d_mo_readPlain_137 rfl ?_
                        exact ⟨_, _, rfl, rfl, by rw [mo_rp0 hsz hs8 hr, if_neg (fun z => z.elim (fun z => c56 z.1) (fun z => c69 z.1)), if_neg (fun z => z.2.elim c106 (fun z => z.elim c113 (fun z => absurd c128 (Int32.not_le.mpr z.2))))]; rfl, rfl⟩
                      · refine ev_aload_0 131 d_mo_readPlain_131 ?_
                        refine ev_iconst_3 132 d_mo_readPlain_132 ?_
                        refine ev_iload_3 133 d_mo_readPlain_133 ?_
                        refine mo_callv2 134 d_mo_readPlain_134 hZ kc_230 (mt_fails hZ _ _) (fun F1 B1 h => ?_)
                        obtain ⟨e1, e2⟩ := h
                        subst F1
                        subst B1
                        refine ev_vret 137 d_mo_readPlain_137 rfl ?_
                        exact ⟨_, _, rfl, rfl, by rw [mo_rp0 hsz hs8 hr, if_neg (fun z => z.elim (fun z => c56 z.1) (fun z => c69 z.1)), if_pos ⟨c92, Or.inr (Or.inr ⟨Int32.not_le.mp c120, Int32.not_le.mp c128⟩)⟩]; rfl, rfl⟩
            · refine ev_iload_5 72 d_mo_readPlain_72 ?_
              refine ev_aload_0 74 d_mo_readPlain_74 ?_
              refine mo_getr 75 1 3 d_mo_readPlain_75 lk_13 ?_
              refine ev_iload_2 78 d_mo_readPlain_78 ?_
              refine mo_aldn (j := tt) 79 1 3 d_mo_readPlain_79 (by exact htt) ?_
              refine ev_icmplt 80 89 d_mo_readPlain_80 (fun c80 => ?_) (fun c80 => ?_)
              · refine ev_iload_4 89 d_mo_readPlain_89 ?_
                refine ev_iconst_5 91 d_mo_readPlain_91 ?_
                refine ev_icmpne 92 137 d_mo_readPlain_92 (fun c92 => ?_) (fun c92 => ?_)
                · refine ev_vret 137 d_mo_readPlain_137 rfl ?_
                  exact ⟨_, _, rfl, rfl, by rw [mo_rp0 hsz hs8 hr, if_neg (fun z => z.elim (fun z => c56 z.1) (fun z => z.2 (hfy ▸ c80))), if_neg (fun z => c92 z.1)]; rfl, rfl⟩
                · exact absurd ((show B 2 tt = 7 from c69).symm.trans (show B 2 tt = 5 from c92)) (by decide)
              · refine ev_aload_0 83 d_mo_readPlain_83 ?_
                refine ev_iconst_2 84 d_mo_readPlain_84 ?_
                refine ev_iload_3 85 d_mo_readPlain_85 ?_
                refine mo_callv2 86 d_mo_readPlain_86 hZ kc_230 (mt_fails hZ _ _) (fun F1 B1 h => ?_)
                obtain ⟨e1, e2⟩ := h
                subst F1
                subst B1
                refine ev_iload_4 89 d_mo_readPlain_89 ?_
                refine ev_iconst_5 91 d_mo_readPlain_91 ?_
                refine ev_icmpne 92 137 d_mo_readPlain_92 (fun c92 => ?_) (fun c92 => ?_)
                · refine ev_vret 137 d_mo_readPlain_137 rfl ?_
                  exact ⟨_, _, rfl, rfl, by rw [mo_rp0 hsz hs8 hr, if_pos (Or.inr ⟨c69, hfy ▸ c80⟩)]; rfl, rfl⟩
                · exact absurd ((show B 2 tt = 7 from c69).symm.trans (show B 2 tt = 5 from c92)) (by decide)
          · refine ev_iload_5 59 d_mo_readPlain_59 ?_
            refine ev_iconst_1 61 d_mo_readPlain_61 ?_
            refine ev_icmpgt 62 83 d_mo_readPlain_62 (fun c62 => ?_) (fun c62 => ?_)
            · refine ev_aload_0 83 d_mo_readPlain_83 ?_
              refine ev_iconst_2 84 d_mo_readPlain_84 ?_
              refine ev_iload_3 85 d_mo_readPlain_85 ?_
              refine mo_callv2 86 d_mo_readPlain_86 hZ kc_230 (mt_fails hZ _ _) (fun F1 B1 h => ?_)
              obtain ⟨e1, e2⟩ := h
              subst F1
              subst B1
              refine ev_iload_4 89 d_mo_readPlain_89 ?_
              refine ev_iconst_5 91 d_mo_readPlain_91 ?_
              refine ev_icmpne 92 137 d_mo_readPlain_92 (fun c92 => ?_) (fun c92 => ?_)
              · refine ev_vret 137 d_mo_readPlain_137 rfl ?_
                exact ⟨_, _, rfl, rfl, by rw [mo_rp0 hsz hs8 hr, if_pos (Or.inl ⟨c56, hfy ▸ c62⟩)]; rfl, rfl⟩
              · exact absurd ((show B 2 tt = 0 from c56).symm.trans (show B 2 tt = 5 from c92)) (by decide)
            · refine ev_iload_4 65 d_mo_readPlain_65 ?_
              refine ev_bipush (7) 67 d_mo_readPlain_67 (by decide) ?_
              refine ev_icmpne 69 89 d_mo_readPlain_69 (fun c69 => ?_) (fun c69 => ?_)
              · refine ev_iload_4 89 d_mo_readPlain_89 ?_
                refine ev_iconst_5 91 d_mo_readPlain_91 ?_
                refine ev_icmpne 92 137 d_mo_readPlain_92 (fun c92 => ?_) (fun c92 => ?_)
                · refine ev_vret 137 d_mo_readPlain_137 rfl ?_
                  exact ⟨_, _, rfl, rfl, by rw [mo_rp0 hsz hs8 hr, if_neg (fun z => z.elim (fun z => c62 (hfy ▸ z.2)) (fun z => c69 z.1)), if_neg (fun z => c92 z.1)]; rfl, rfl⟩
                · exact absurd ((show B 2 tt = 0 from c56).symm.trans (show B 2 tt = 5 from c92)) (by decide)
              · exact absurd ((show B 2 tt = 0 from c56).symm.trans (show B 2 tt = 7 from c69)) (by decide)
        · refine ev_vret 53 d_mo_readPlain_53 rfl ?_
          obtain ⟨q, hq, e1⟩ := mo_ivb h0 hI c50
          exact ⟨_, _, rfl, rfl, by rw [mo_rp1 hsz hs8 hq]; exact e1, rfl⟩
      · have h27 := n_nle sz n c27 hsz
        refine ev_aload_0 30 d_mo_readPlain_30 ?_
        refine ev_iload_1 31 d_mo_readPlain_31 ?_
        refine ev_iload_3 32 d_mo_readPlain_32 ?_
        refine ev_iload_6 33 d_mo_readPlain_33 ?_
        refine ev_iadd 35 d_mo_readPlain_35 ?_
        refine mo_calli2 36 d_mo_readPlain_36 hZ kc_234 (mt_byteAt hZ (nI ii) _ (mo_bb hii _)) (fun y F1 B1 h => ?_)
        obtain ⟨hb, e2⟩ := h
        subst B1
        have hs := mo_ivs h0 hI hb
        refine ev_pop_i 39 d_mo_readPlain_39 ?_
        refine ev_iinc_6 40 d_mo_readPlain_40 ?_
        refine ev_goto 43 19 d_mo_readPlain_43 ?_
        exact ev_eq (ih (n + 1) F1 fy (by omega) (by omega) (by omega) hs.1 (fun z => hfy (mo_rg_le 1 z))) (h1 := by rw [n_i1])
  refine ev_aload_0 0 d_mo_readPlain_0 ?_
  refine mo_getr 1 0 2 d_mo_readPlain_1 lk_7 ?_
  refine ev_iload_2 4 d_mo_readPlain_4 ?_
  refine mo_aldn (j := tt) 5 0 2 d_mo_readPlain_5 (by exact htt) ?_
  refine ev_istore_4 6 d_mo_readPlain_6 ?_
  refine ev_aload_0 8 d_mo_readPlain_8 ?_
  refine ev_iload_1 9 d_mo_readPlain_9 ?_
  refine ev_iload_3 10 d_mo_readPlain_10 ?_
  refine mo_calli2 11 d_mo_readPlain_11 hZ kc_234 (mt_byteAt hZ (nI ii) _ (mo_bb hii _)) (fun y F1 B1 h => ?_)
  obtain ⟨hb, e2⟩ := h
  subst B1
  have hs := mo_ivs (n := 0) h0 (mo_iv0 F p) (by rw [n_a0]; exact hb)
  rw [n_a0] at hs
  refine ev_istore_5 14 d_mo_readPlain_14 ?_
  refine ev_iconst_1 16 d_mo_readPlain_16 ?_
  refine ev_istore_6 17 d_mo_readPlain_17 ?_
  exact L19 (sz + 1) 1 F1 y (by omega) (by omega) (by omega) hs.1 hs.2
