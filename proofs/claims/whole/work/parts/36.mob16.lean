def cdk (c : Int32) : Prop := ¬ c ≤ 0 ∧ ¬ c = 11 ∧ ¬ c = 12
theorem tx_rcK {f : Nat → Int32} {ii fr mn : Nat} {x : Int32 × Int32} : ∀ n k, tx_r f ii fr mn n k = some x → cdk x.1 := by
  intro n
  induction n with
  | zero => intro k h; cases h
  | succ n ih =>
    intro k h
    rw [tx_r] at h
    split at h
    · cases h
    · cases e : tx_g f ii fr mn k with
      | some r =>
        rw [e] at h
        cases h
        rcases tx_cc e with z | z <;> rw [z] <;> unfold cdk <;> decide
      | none => rw [e] at h; exact ih _ h
theorem mo_rp_nzK {B : Nat → Nat → Int32} {ii tt : Nat} {p : Int32} {x : Int32 × Int32} (h : mo_rp B ii tt p = some x) : cdk x.1 := by
  unfold mo_rp at h
  split at h
  · cases h; show cdk 1; unfold cdk; decide
  · split at h
    · cases h; show cdk 2; unfold cdk; decide
    · split at h
      · cases h; show cdk 3; unfold cdk; decide
      · cases h
theorem mo_rh_nzK {B : Nat → Nat → Int32} {ii tt : Nat} {p : Int32} {it : Nat} {x : Int32 × Int32} (h : (mo_rh B ii tt p it).1 = some x) : cdk x.1 := by
  unfold mo_rh at h
  split at h
  · cases h; show cdk 1; unfold cdk; decide
  · split at h
    · cases h; show cdk 6; unfold cdk; decide
    · split at h
      · cases h; show cdk 7; unfold cdk; decide
      · split at h
        · cases h
        · split at h
          · cases h; show cdk 8; unfold cdk; decide
          · split at h
            · cases h; show cdk 9; unfold cdk; decide
            · cases h
theorem ri_1nzK {B : Nat → Nat → Int32} {ct : Nat → Nat} {ii tt uu : Nat} {p ab inn : Int32} {nn : Nat} {x : Int32 × Int32} (h : ri_1 B ct ii tt uu p ab inn nn = .inl x) : cdk x.1 := by
  unfold ri_1 at h
  split at h
  · cases h; show cdk 10; unfold cdk; decide
  split at h
  · cases h; show cdk 5; unfold cdk; decide
  split at h
  · cases hh : ri_h p with
    | some z => rw [hh] at h; cases h; show cdk 1; unfold cdk; decide
    | none =>
      rw [hh] at h
      dsimp only at h
      split at h
      · rename_i e; cases h; exact tx_rcK _ _ e
      · cases h
  split at h
  · cases hh : ri_h p with
    | some z => rw [hh] at h; cases h; show cdk 1; unfold cdk; decide
    | none =>
      rw [hh] at h
      dsimp only at h
      split at h <;> cases h
  split at h
  · cases h
  split at h
  · split at h
    · cases h; show cdk 1; unfold cdk; decide
    split at h
    · cases h; show cdk 2; unfold cdk; decide
    · cases h
  split at h
  · cases hx : (mo_rh (ri_B0 B nn uu p ab inn) ii tt p nn).1 with
    | some r => rw [hx] at h; cases h; exact mo_rh_nzK hx
    | none => rw [hx] at h; cases h
  · cases hx : mo_rp B ii tt p with
    | some r => rw [hx] at h; cases h; exact mo_rp_nzK hx
    | none => rw [hx] at h; cases h

theorem rd_iK (T4 : Nat → Int32) (ct : Nat → Nat) (ii : Nat) : ∀ (d tt uu : Nat) (p ab inn : Int32) (n : Nat) (B : Nat → Nat → Int32) (x : Int32 × Int32), rd_i T4 ct ii d tt uu p ab inn n B = .inl x → cdk x.1 := by
  intro d
  induction d with
  | zero => intro tt uu p ab inn n B x h; cases h
  | succ d ih =>
    intro tt uu p ab inn n B x h
    have PM : ∀ (t2 u2 : Nat) (ab : Int32) (sz su : Int32) (r : Nat) (p inn : Int32) (n : Nat) (B : Nat → Nat → Int32), rd_m (fun p inn n B => rd_i T4 ct ii d t2 u2 p ab inn n B) sz su r p inn n B = .inl x → cdk x.1 := by
      intro t2 u2 ab sz su r
      induction r with
      | zero => intro p inn n B h; cases h
      | succ r ihr =>
        intro p inn n B h
        rw [rd_m] at h
        cases hx : rd_i T4 ct ii d t2 u2 p ab inn n B with
        | inl z => rw [hx] at h; cases h; exact ih _ _ _ _ _ _ _ _ hx
        | inr q => rw [hx] at h; exact ihr _ _ _ _ h
    have PS : ∀ (e : Nat → ri_E) (len n : Nat) (B : Nat → Nat → Int32), rd_s (fun e n B => rd_m (fun p inn n B => rd_i T4 ct ii d e.1.toNatClampNeg e.2.1.toNatClampNeg p e.2.2.2.2.1 inn n B) (T4 e.1.toNatClampNeg) (T4 e.2.1.toNatClampNeg) e.2.2.1.toNatClampNeg e.2.2.2.1 e.2.2.2.2.2 n B) e len n B = .inl x → cdk x.1 := by
      intro e len
      induction len with
      | zero => intro n B h; cases h
      | succ len ihl =>
        intro n B h
        rw [rd_s] at h
        cases hx : rd_m (fun p inn n B => rd_i T4 ct ii d (e len).1.toNatClampNeg (e len).2.1.toNatClampNeg p (e len).2.2.2.2.1 inn n B) (T4 (e len).1.toNatClampNeg) (T4 (e len).2.1.toNatClampNeg) (e len).2.2.1.toNatClampNeg (e len).2.2.2.1 (e len).2.2.2.2.2 n B with
        | inl z => rw [hx] at h; cases h; exact PM _ _ _ _ _ _ _ _ _ _ hx
        | inr q => rw [hx] at h; exact ihl _ _ h
    rw [rd_i] at h
    cases hx : ri_1 B ct ii tt uu p ab inn n with
    | inl z => rw [hx] at h; cases h; exact ri_1nzK hx
    | inr q => rw [hx] at h; exact PS _ _ _ _ h
theorem rd_eK {T4 : Nat → Int32} {ct : Nat → Nat} {ii tt uu : Nat} {p : Int32} {B : Nat → Nat → Int32} {x : Int32 × Int32} (h : rd_e T4 ct ii 5 (nI tt, nI uu, 1, p, -1, 0) 0 B = .inl x) : cdk x.1 := by
  unfold rd_e at h
  dsimp only at h
  rw [show (1 : Int32).toNatClampNeg = 1 from rfl, rd_m] at h
  cases hx : rd_i T4 ct ii 5 (nI tt).toNatClampNeg (nI uu).toNatClampNeg p (-1) 0 0 B with
  | inl z => rw [hx] at h; cases h; exact rd_iK _ _ _ _ _ _ _ _ _ _ _ _ hx
  | inr q => rw [hx] at h; cases h
/-- the end of a passing: what was taken is in use no longer, unless there was a fault -/
def pe_u (z : Prop) [Decidable z] (B : Nat → Nat → Int32) (m x : Nat) : Int32 := if x < m then (if ¬ B 16 x = 0 ∧ (B 20 x = 0 ∨ ¬ z) then 1 else 0) else B 16 x
def pe_0 (f : Nat → Int32) (m x : Nat) : Int32 := if x < m then 0 else f x
def pe_B (z : Prop) [Decidable z] (B : Nat → Nat → Int32) (m : Nat) : Nat → Nat → Int32 := va_up (va_up (va_up B 16 (pe_u z B m)) 20 (pe_0 (B 20) m)) 21 (pe_0 (B 21) m)
theorem pe_z (z : Prop) [Decidable z] (B : Nat → Nat → Int32) : pe_B z B 0 = B := by
  have e1 : pe_u z B 0 = B 16 := by funext x; rw [pe_u, if_neg (Nat.not_lt_zero x)]
  have e2 : ∀ f, pe_0 f 0 = f := fun f => by funext x; rw [pe_0, if_neg (Nat.not_lt_zero x)]
  rw [pe_B, e1, e2, e2]
  rw [mo_upid]
  rw [mo_upid]
  rw [mo_upid]
theorem pe_0s (f : Nat → Int32) (m : Nat) : upd (pe_0 f m) m 0 = pe_0 f (m + 1) := by
  funext x
  by_cases e : x = m
  · subst e; rw [upd_eq, pe_0, if_pos (Nat.lt_succ_self x)]
  · rw [upd_ne e, pe_0, pe_0]
    by_cases h : x < m
    · rw [if_pos h, if_pos (by omega)]
    · rw [if_neg h, if_neg (by omega)]
theorem pe_us {z : Prop} [Decidable z] {B : Nat → Nat → Int32} {m : Nat} {v : Int32} (hv : v = if ¬ B 16 m = 0 ∧ (B 20 m = 0 ∨ ¬ z) then 1 else 0) : upd (pe_u z B m) m v = pe_u z B (m + 1) := by
  funext x
  by_cases e : x = m
  · subst e; rw [upd_eq, pe_u, if_pos (Nat.lt_succ_self x), hv]
  · rw [upd_ne e, pe_u, pe_u]
    by_cases h : x < m
    · rw [if_pos h, if_pos (show x < m + 1 by omega)]
    · rw [if_neg h, if_neg (show ¬ x < m + 1 by omega)]
theorem pe_st {z : Prop} [Decidable z] {B : Nat → Nat → Int32} {m : Nat} {v : Int32} (hv : v = if ¬ B 16 m = 0 ∧ (B 20 m = 0 ∨ ¬ z) then 1 else 0) : va_up (va_up (va_up (pe_B z B m) 16 (upd (pe_B z B m 16) m v)) 20 (upd (pe_B z B m 20) m 0)) 21 (upd (pe_B z B m 21) m 0) = pe_B z B (m + 1) := by
  have e16 : pe_B z B m 16 = pe_u z B m := rfl
  have e20 : pe_B z B m 20 = pe_0 (B 20) m := rfl
  have e21 : pe_B z B m 21 = pe_0 (B 21) m := rfl
  rw [e16, e20, e21, pe_us hv, pe_0s, pe_0s]
  funext f
  by_cases f1 : f = 21
  · subst f1; rfl
  by_cases f2 : f = 20
  · subst f2; rfl
  by_cases f3 : f = 16
  · subst f3; rfl
  rw [va_up_ne _ _ f1, va_up_ne _ _ f2, va_up_ne _ _ f3, pe_B, pe_B, va_up_ne _ _ f1, va_up_ne _ _ f2, va_up_ne _ _ f3, va_up_ne _ _ f1, va_up_ne _ _ f2, va_up_ne _ _ f3]
/-- the numbers as a passing begins -/
def ps_F (F : Nat → Int32) : Nat → Int32 := upd (upd F 54 0) 52 0
/-- a value is passed: the place, the numbers, the tables -/
def ps_q (F : Nat → Int32) (B : Nat → Nat → Int32) (ii J hp sz al : Nat) (R : rd_R) (x : Int32) (F1 : Nat → Int32) (B1 : Nat → Nat → Int32) : Prop := match R with
  | .inl r => ∃ F2 B2, F2 54 = r.1 ∧ F2 55 = r.2 ∧ (∀ k, k ≠ 36 → k ≠ 43 → k ≠ 54 → k ≠ 55 → F2 k = ps_F F k) ∧ mo_sc B B2 ∧ F1 = F2 ∧ B1 = pe_B (F2 54 = 0) B2 102
  | .inr q => ∃ Bs, mo_ag q.2 Bs ∧ ((256 < mo_ut hp al + sz ∧ F1 = mo_fl (upd (upd (ps_F F) 43 (nI q.1)) 36 (nI 0)) 11 (nI (mo_ut hp al)) ∧ B1 = pe_B (F1 54 = 0) (va_up Bs 50 (upd (Bs 50) 0 0)) 102)
    ∨ (mo_ut hp al + sz ≤ 256 ∧ x = nI (mo_ut hp al) ∧ F1 = (wl ii J q.1 0 (upd (upd (ps_F F) 43 (nI q.1)) 36 (nI 0)) (va_up (va_up (va_up Bs 13 (mo_zf (Bs 13) (256 * J + mo_ut hp al) sz)) 14 (upd (Bs 14) J (nI (mo_ut hp al + sz)))) 50 (upd (Bs 50) 0 (nI (mo_ut hp al))))).1 ∧ wr_cd (F1 54) ∧ B1 = pe_B (F1 54 = 0) (wl ii J q.1 0 (upd (upd (ps_F F) 43 (nI q.1)) 36 (nI 0)) (va_up (va_up (va_up Bs 13 (mo_zf (Bs 13) (256 * J + mo_ut hp al) sz)) 14 (upd (Bs 14) J (nI (mo_ut hp al + sz)))) 50 (upd (Bs 50) 0 (nI (mo_ut hp al))))).2 102))

theorem mo_flk (F : Nat → Int32) (c p : Int32) {k : Nat} (h1 : k ≠ 54) (h2 : k ≠ 55) : mo_fl F c p k = F k := by
  unfold mo_fl
  split
  · exact (upd_ne h2).trans (upd_ne h1)
  · rfl
theorem wi_F (F : Nat → Int32) (B : Nat → Nat → Int32) (ii J it uu to : Nat) {k : Nat} (h0 : k ≠ 52) (h1 : k ≠ 54) (h2 : k ≠ 55) : (wi_1 F B ii J it uu to).1 k = F k := by
  unfold wi_1
  split
  · unfold wi_l
    split
    · exact mo_flk F _ _ h1 h2
    · rfl
  split
  · unfold wi_l
    split
    · exact mo_flk F _ _ h1 h2
    · rfl
  split
  · unfold mo_wh
    split
    · exact mo_flk F _ _ h1 h2
    · exact upd_ne h0
  split
  · rfl
  · rfl
theorem wi_43 (F : Nat → Int32) (B : Nat → Nat → Int32) (ii J it uu to : Nat) : (wi_1 F B ii J it uu to).1 43 = F 43 := wi_F F B ii J it uu to (by decide) (by decide) (by decide)

set_option maxHeartbeats 4000000 in
set_option maxRecDepth 100000 in
theorem mt_pass {l : Launch} {D : va_G} {tl : List (ClassId × FieldType)} {Z : (Nat → Prop) → State → Heap → Prop} {kI kZ : ClassId} {am : Nat → Nat} {F : Nat → Int32} {B : Nat → Nat → Int32} (hZ : ev_Zok Z) (ii : Nat) (tt : Nat) (at_ : Int32) (J : Nat) (uu : Nat) (hii : ii < 6) (hJ : J < 6) (NT : Nat) (ct dp : Nat → Nat) (pt : Nat → Nat → Nat) (sz al : Nat → Nat) (R : Nat → Nat → Prop) (hW : ty_wf B NT ct dp pt) (hD : ty_rd B NT ct) (hR : ty_ft B ct pt R) (hS : ty_sz B NT ct pt sz al) (htt : tt < NT) (huu : uu < NT) (hf : R tt uu) (h8 : mo_b8 B) (hG : ∀ y, y < 102 → ¬ B 16 y = 0 → vp_in (B 17 y) 1024) (hp : Nat) (hhp : B 14 J = nI hp) (hp2 : hp ≤ 256) : MT (mo_π l D cl_A kI kZ tl Z) m_pass 0 0 [.ref (am 60), .int (nI ii), .int (nI tt), .int at_, .int (nI J), .int (nI uu)] (mo_W mo_ci am kI kZ F B) (mo_qi am kI kZ (fun x F1 B1 => ps_q F B ii J hp (sz uu) (al uu) (rd_e (B 4) ct ii 5 (nI tt, nI uu, 1, at_, -1, 0) 0 B) x F1 B1)) := by
  refine mt_of mo_pl rfl (Nat.le_of_ble_eq_true rfl) (ev_eq (lv' := [some (.ref (am 60)), some (.int (nI ii)), some (.int (nI tt)), some (.int at_), some (.int (nI J)), some (.int (nI uu)), none, none]) ?_)
  have L97 : ∀ (F2 : Nat → Int32) (B2 : Nat → Nat → Int32) (y : Int32), ps_q F B ii J hp (sz uu) (al uu) (rd_e (B 4) ct ii 5 (nI tt, nI uu, 1, at_, -1, 0) 0 B) y F2 (pe_B (F2 54 = 0) B2 102) → ∀ m j : Nat, 102 - j < m → j ≤ 102 → EV (mo_π l D cl_A kI kZ tl Z) m_pass (ev_E (mo_π l D cl_A kI kZ tl Z) 0 0 (mo_qi am kI kZ (fun x F1 B1 => ps_q F B ii J hp (sz uu) (al uu) (rd_e (B 4) ct ii 5 (nI tt, nI uu, 1, at_, -1, 0) 0 B) x F1 B1))) 0 0 97 [some (.ref (am 60)), some (.int (nI ii)), some (.int (nI tt)), some (.int at_), some (.int (nI J)), some (.int (nI uu)), some (.int y), some (.int (nI j))] [] (mo_W mo_ci am kI kZ F2 (pe_B (F2 54 = 0) B2 j)) := by
    intro F2 B2 y hP m
    induction m with
    | zero => intro j h; omega
    | succ m ih =>
      intro j hm hj
      refine ev_iload_7 97 d_mo_pass_97 ?_
      refine ev_bipush (102) 99 d_mo_pass_99 (by decide) ?_
      refine ev_icmpge 101 165 d_mo_pass_101 (fun c101 => ?_) (fun c101 => ?_)
      · have h101 := n_le 102 j c101
        obtain rfl : j = 102 := by omega
        refine ev_iload_6 165 d_mo_pass_165 ?_
        refine ev_iret 167 d_mo_pass_167 rfl ?_
        exact ⟨_, _, _, rfl, rfl, hP⟩
      · have h101 := n_nle 102 j c101
        refine ev_aload_0 104 d_mo_pass_104 ?_
        refine mo_getr 105 12 16 d_mo_pass_105 lk_46 ?_
        refine ev_iload_7 108 d_mo_pass_108 ?_
        refine ev_aload_0 110 d_mo_pass_110 ?_
        refine mo_getr 111 12 16 d_mo_pass_111 lk_46 ?_
        refine ev_iload_7 114 d_mo_pass_114 ?_
        refine mo_zldn (j := j) 116 12 16 d_mo_pass_116 (by show j < 102; omega) ?_
        refine ev_ifeq 117 141 d_mo_pass_117 (fun c117 => ?_) (fun c117 => ?_)
        · have h16 : B2 16 j = 0 := (show pe_B (F2 54 = 0) B2 j 16 j = B2 16 j by show pe_u (F2 54 = 0) B2 j j = B2 16 j; rw [pe_u, if_neg (Nat.lt_irrefl j)]).symm.trans c117
          refine ev_iconst_0 141 d_mo_pass_141 ?_
          refine mo_zstn (j := j) 142 12 16 d_mo_pass_142 (by show j < 102; omega) (by first | exact Or.inl rfl | exact Or.inr rfl) ?_
          refine ev_aload_0 143 d_mo_pass_143 ?_
          refine mo_getr 144 16 20 d_mo_pass_144 lk_59 ?_
          refine ev_iload_7 147 d_mo_pass_147 ?_
          refine ev_iconst_0 149 d_mo_pass_149 ?_
          refine mo_zstn (j := j) 150 16 20 d_mo_pass_150 (by show j < 102; omega) (by exact Or.inl rfl) ?_
          refine ev_aload_0 151 d_mo_pass_151 ?_
          refine mo_getr 152 17 21 d_mo_pass_152 lk_62 ?_
          refine ev_iload_7 155 d_mo_pass_155 ?_
          refine ev_iconst_0 157 d_mo_pass_157 ?_
          refine mo_astn (j := j) 158 17 21 d_mo_pass_158 (by show j < 102; omega) ?_
          refine ev_iinc_7 159 d_mo_pass_159 ?_
          refine ev_goto 162 97 d_mo_pass_162 ?_
          exact ev_eq (ih (j + 1) (by omega) (by omega)) (h1 := by rw [n_i1]) (h3 := congrArg (mo_W mo_ci am kI kZ _) (pe_st (z := F2 54 = 0) (B := B2) (m := j) (if_neg (fun z => z.1 h16)).symm))
        · have h16 : ¬ B2 16 j = 0 := fun z => c117 ((show pe_B (F2 54 = 0) B2 j 16 j = B2 16 j by show pe_u (F2 54 = 0) B2 j j = B2 16 j; rw [pe_u, if_neg (Nat.lt_irrefl j)]).trans z)
          refine ev_aload_0 120 d_mo_pass_120 ?_
          refine mo_getr 121 16 20 d_mo_pass_121 lk_59 ?_
          refine ev_iload_7 124 d_mo_pass_124 ?_
          refine mo_zldn (j := j) 126 16 20 d_mo_pass_126 (by show j < 102; omega) ?_
          refine ev_ifeq 127 137 d_mo_pass_127 (fun c127 => ?_) (fun c127 => ?_)
          · have h20 : B2 20 j = 0 := (show pe_B (F2 54 = 0) B2 j 20 j = B2 20 j by show pe_0 (B2 20) j j = B2 20 j; rw [pe_0, if_neg (Nat.lt_irrefl j)]).symm.trans c127
            refine ev_iconst_1 137 d_mo_pass_137 ?_
            refine ev_goto 138 142 d_mo_pass_138 ?_
            refine mo_zstn (j := j) 142 12 16 d_mo_pass_142 (by show j < 102; omega) (by first | exact Or.inl rfl | exact Or.inr rfl) ?_
            refine ev_aload_0 143 d_mo_pass_143 ?_
            refine mo_getr 144 16 20 d_mo_pass_144 lk_59 ?_
            refine ev_iload_7 147 d_mo_pass_147 ?_
            refine ev_iconst_0 149 d_mo_pass_149 ?_
            refine mo_zstn (j := j) 150 16 20 d_mo_pass_150 (by show j < 102; omega) (by exact Or.inl rfl) ?_
            refine ev_aload_0 151 d_mo_pass_151 ?_
            refine mo_getr 152 17 21 d_mo_pass_152 lk_62 ?_
            refine ev_iload_7 155 d_mo_pass_155 ?_
            refine ev_iconst_0 157 d_mo_pass_157 ?_
            refine mo_astn (j := j) 158 17 21 d_mo_pass_158 (by show j < 102; omega) ?_
            refine ev_iinc_7 159 d_mo_pass_159 ?_
            refine ev_goto 162 97 d_mo_pass_162 ?_
            exact ev_eq (ih (j + 1) (by omega) (by omega)) (h1 := by rw [n_i1]) (h3 := congrArg (mo_W mo_ci am kI kZ _) (pe_st (z := F2 54 = 0) (B := B2) (m := j) (if_pos ⟨h16, Or.inl h20⟩).symm))
          · have h20 : ¬ B2 20 j = 0 := fun z => c127 ((show pe_B (F2 54 = 0) B2 j 20 j = B2 20 j by show pe_0 (B2 20) j j = B2 20 j; rw [pe_0, if_neg (Nat.lt_irrefl j)]).trans z)
            refine ev_aload_0 130 d_mo_pass_130 ?_
            refine mo_geti 131 54 d_mo_pass_131 lk_224 ?_
            refine ev_ifeq 134 141 d_mo_pass_134 (fun c134 => ?_) (fun c134 => ?_)
            · refine ev_iconst_0 141 d_mo_pass_141 ?_
              refine mo_zstn (j := j) 142 12 16 d_mo_pass_142 (by show j < 102; omega) (by first | exact Or.inl rfl | exact Or.inr rfl) ?_
              refine ev_aload_0 143 d_mo_pass_143 ?_
              refine mo_getr 144 16 20 d_mo_pass_144 lk_59 ?_
              refine ev_iload_7 147 d_mo_pass_147 ?_
              refine ev_iconst_0 149 d_mo_pass_149 ?_
              refine mo_zstn (j := j) 150 16 20 d_mo_pass_150 (by show j < 102; omega) (by exact Or.inl rfl) ?_
              refine ev_aload_0 151 d_mo_pass_151 ?_
              refine mo_getr 152 17 21 d_mo_pass_152 lk_62 ?_
              refine ev_iload_7 155 d_mo_pass_155 ?_
              refine ev_iconst_0 157 d_mo_pass_157 ?_
              refine mo_astn (j := j) 158 17 21 d_mo_pass_158 (by show j < 102; omega) ?_
              refine ev_iinc_7 159 d_mo_pass_159 ?_
              refine ev_goto 162 97 d_mo_pass_162 ?_
              exact ev_eq (ih (j + 1) (by omega) (by omega)) (h1 := by rw [n_i1]) (h3 := congrArg (mo_W mo_ci am kI kZ _) (pe_st (z := F2 54 = 0) (B := B2) (m := j) (if_neg (fun z => z.2.elim h20 (fun y => y c134))).symm))
            · refine ev_iconst_1 137 d_mo_pass_137 ?_
              refine ev_goto 138 142 d_mo_pass_138 ?_
              refine mo_zstn (j := j) 142 12 16 d_mo_pass_142 (by show j < 102; omega) (by first | exact Or.inl rfl | exact Or.inr rfl) ?_
              refine ev_aload_0 143 d_mo_pass_143 ?_
              refine mo_getr 144 16 20 d_mo_pass_144 lk_59 ?_
              refine ev_iload_7 147 d_mo_pass_147 ?_
              refine ev_iconst_0 149 d_mo_pass_149 ?_
              refine mo_zstn (j := j) 150 16 20 d_mo_pass_150 (by show j < 102; omega) (by exact Or.inl rfl) ?_
              refine ev_aload_0 151 d_mo_pass_151 ?_
              refine mo_getr 152 17 21 d_mo_pass_152 lk_62 ?_
              refine ev_iload_7 155 d_mo_pass_155 ?_
              refine ev_iconst_0 157 d_mo_pass_157 ?_
              refine mo_astn (j := j) 158 17 21 d_mo_pass_158 (by show j < 102; omega) ?_
              refine ev_iinc_7 159 d_mo_pass_159 ?_
              refine ev_goto 162 97 d_mo_pass_162 ?_
              exact ev_eq (ih (j + 1) (by omega) (by omega)) (h1 := by rw [n_i1]) (h3 := congrArg (mo_W mo_ci am kI kZ _) (pe_st (z := F2 54 = 0) (B := B2) (m := j) (if_pos ⟨h16, Or.inr c134⟩).symm))
  have L63 : ∀ (q : Nat × (Nat → Nat → Int32)) (Bs : Nat → Nat → Int32), rd_e (B 4) ct ii 5 (nI tt, nI uu, 1, at_, -1, 0) 0 B = .inr q → q.1 ≤ 200 → mo_ag q.2 Bs → mo_ut hp (al uu) + sz uu ≤ 256 → ty_wf Bs NT ct dp pt → ty_rd Bs NT ct → ty_sz Bs NT ct pt sz al → (∀ k, k < q.1 → it_k Bs NT sz k) → ∀ (m k : Nat) (F2 : Nat → Int32) (B2 : Nat → Nat → Int32), q.1 - k < m → k ≤ q.1 → F2 43 = nI q.1 → wl ii J (q.1 - k) k F2 B2 = wl ii J q.1 0 (upd (upd (ps_F F) 43 (nI q.1)) 36 (nI 0)) (va_up (va_up (va_up Bs 13 (mo_zf (Bs 13) (256 * J + mo_ut hp (al uu)) (sz uu))) 14 (upd (Bs 14) J (nI (mo_ut hp (al uu) + sz uu)))) 50 (upd (Bs 50) 0 (nI (mo_ut hp (al uu))))) → wr_cd (F2 54) → (F2 54 = 0 → wr_iv Bs NT sz J F2 B2 k) → EV (mo_π l D cl_A kI kZ tl Z) m_pass (ev_E (mo_π l D cl_A kI kZ tl Z) 0 0 (mo_qi am kI kZ (fun x F1 B1 => ps_q F B ii J hp (sz uu) (al uu) (rd_e (B 4) ct ii 5 (nI tt, nI uu, 1, at_, -1, 0) 0 B) x F1 B1))) 0 0 63 [some (.ref (am 60)), some (.int (nI ii)), some (.int (nI tt)), some (.int at_), some (.int (nI J)), some (.int (nI uu)), some (.int (nI (mo_ut hp (al uu)))), some (.int (nI k))] [] (mo_W mo_ci am kI kZ F2 B2) := by
    intro q Bs hq hq2 hag hroom hW2 hD2 hS2 hall m
    induction m with
    | zero => intro k F2 B2 h; omega
    | succ m ih =>
      intro k F2 B2 hm hk h43 hwl hcd hiv
      refine ev_iload_7 63 d_mo_pass_63 ?_
      refine ev_aload_0 65 d_mo_pass_65 ?_
      refine mo_geti 66 43 d_mo_pass_66 lk_237 ?_
      refine ev_icmpge 69 94 d_mo_pass_69 (fun c69 => ?_) (fun c69 => ?_)
      · refine ev_iconst_0 94 d_mo_pass_94 ?_
        refine ev_istore_7 95 d_mo_pass_95 ?_
        have h69 := n_le q.1 k c69 h43
        have ek : k = q.1 := by omega
        have e9 : wl ii J (q.1 - k) k F2 B2 = (F2, B2) := by rw [ek, Nat.sub_self]; rfl
        rw [e9] at hwl
        exact ev_eq (L97 F2 B2 _ (by rw [hq]; exact ⟨Bs, hag, Or.inr ⟨hroom, rfl, by rw [← hwl], hcd, by rw [← hwl]⟩⟩) 103 0 (by omega) (by omega)) (h3 := by rw [pe_z])
      · have h69 : k < q.1 := n_nle q.1 k c69 h43
        refine ev_aload_0 72 d_mo_pass_72 ?_
        refine mo_geti 73 54 d_mo_pass_73 lk_224 ?_
        refine ev_ifne 76 94 d_mo_pass_76 (fun c76 => ?_) (fun c76 => ?_)
        · refine ev_iconst_0 94 d_mo_pass_94 ?_
          refine ev_istore_7 95 d_mo_pass_95 ?_
          have e9 : wl ii J (q.1 - k) k F2 B2 = (F2, B2) := by
            obtain ⟨r, er⟩ : ∃ r, q.1 - k = r + 1 := ⟨q.1 - k - 1, by omega⟩
            rw [er, wl, if_neg c76]
          rw [e9] at hwl
          exact ev_eq (L97 F2 B2 _ (by rw [hq]; exact ⟨Bs, hag, Or.inr ⟨hroom, rfl, by rw [← hwl], hcd, by rw [← hwl]⟩⟩) 103 0 (by omega) (by omega)) (h3 := by rw [pe_z])
        · refine ev_aload_0 79 d_mo_pass_79 ?_
          refine ev_iload_1 80 d_mo_pass_80 ?_
          refine ev_iload_4 81 d_mo_pass_81 ?_
          refine ev_iload_7 83 d_mo_pass_83 ?_
          obtain ⟨wu, wto, wmn, whp, wp, w1, w2, w3⟩ := wr_st (ii := ii) hW2 hD2 hS2 (show k < 200 by omega) (hiv c76) (hall k (by omega)) c76
          obtain ⟨g1, g2, g3, g13, g4, g5, g6, g7, g8, g9, g10, g11⟩ := wp
          refine mo_callv3 85 d_mo_pass_85 hZ kc_275 (mt_writeItem hZ ii J k hii hJ (by omega) NT hW2.1 wu g1 g2 wto g3 g4 c76 wmn whp g5 g6 g7 g8 g9 g10 g11) (fun F9 B9 h9 => ?_)
          obtain ⟨e1, e2⟩ := h9
          subst F9
          subst B9
          refine ev_iinc_7 88 d_mo_pass_88 ?_
          refine ev_goto 91 63 d_mo_pass_91 ?_
          have hN := hW2.1
          have e43 : (wi_1 F2 B2 ii J k wu wto).1 43 = nI q.1 := (wi_43 F2 B2 ii J k wu wto).trans h43
          have e9 : wl ii J (q.1 - k) k F2 B2 = wl ii J (q.1 - (k + 1)) (k + 1) (wi_1 F2 B2 ii J k wu wto).1 (wi_1 F2 B2 ii J k wu wto).2 := by
            rw [show q.1 - k = (q.1 - (k + 1)) + 1 by omega, wl, if_pos c76, g2, g3, nI_clamp (show wu < 2 ^ 31 by omega), nI_clamp (show wto < 2 ^ 31 by omega)]
          exact ev_eq (ih (k + 1) _ _ (by omega) (by omega) e43 (e9 ▸ hwl) w2 w3) (h1 := by rw [n_i1])
  have X63 : ∀ (F2 : Nat → Int32) (B2 : Nat → Nat → Int32) (y : Int32), ¬ F2 54 = 0 → ps_q F B ii J hp (sz uu) (al uu) (rd_e (B 4) ct ii 5 (nI tt, nI uu, 1, at_, -1, 0) 0 B) y F2 (pe_B (F2 54 = 0) B2 102) → EV (mo_π l D cl_A kI kZ tl Z) m_pass (ev_E (mo_π l D cl_A kI kZ tl Z) 0 0 (mo_qi am kI kZ (fun x F1 B1 => ps_q F B ii J hp (sz uu) (al uu) (rd_e (B 4) ct ii 5 (nI tt, nI uu, 1, at_, -1, 0) 0 B) x F1 B1))) 0 0 63 [some (.ref (am 60)), some (.int (nI ii)), some (.int (nI tt)), some (.int at_), some (.int (nI J)), some (.int (nI uu)), some (.int y), some (.int (nI 0))] [] (mo_W mo_ci am kI kZ F2 B2) := by
    intro F2 B2 y hn hP
    refine ev_iload_7 63 d_mo_pass_63 ?_
    refine ev_aload_0 65 d_mo_pass_65 ?_
    refine mo_geti 66 43 d_mo_pass_66 lk_237 ?_
    refine ev_icmpge 69 94 d_mo_pass_69 (fun c69 => ?_) (fun c69 => ?_)
    · refine ev_iconst_0 94 d_mo_pass_94 ?_
      refine ev_istore_7 95 d_mo_pass_95 ?_
      exact ev_eq (L97 F2 B2 y hP 103 0 (by omega) (by omega)) (h3 := by rw [pe_z])
    · refine ev_aload_0 72 d_mo_pass_72 ?_
      refine mo_geti 73 54 d_mo_pass_73 lk_224 ?_
      refine ev_ifne 76 94 d_mo_pass_76 (fun c76 => ?_) (fun c76 => ?_)
      · refine ev_iconst_0 94 d_mo_pass_94 ?_
        refine ev_istore_7 95 d_mo_pass_95 ?_
        exact ev_eq (L97 F2 B2 y hP 103 0 (by omega) (by omega)) (h3 := by rw [pe_z])
      · exact absurd c76 hn
  refine ev_aload_0 0 d_mo_pass_0 ?_
  refine ev_iconst_0 1 d_mo_pass_1 ?_
  refine mo_puti 2 54 d_mo_pass_2 lp_224 ?_
  refine ev_aload_0 5 d_mo_pass_5 ?_
  refine ev_iconst_0 6 d_mo_pass_6 ?_
  refine mo_puti 7 52 d_mo_pass_7 lp_260 ?_
  refine ev_aload_0 10 d_mo_pass_10 ?_
  refine ev_iload_1 11 d_mo_pass_11 ?_
  refine ev_iload_2 12 d_mo_pass_12 ?_
  refine ev_iload_3 13 d_mo_pass_13 ?_
  refine ev_iload_5 14 d_mo_pass_14 ?_
  refine mo_callv4 16 d_mo_pass_16 hZ kc_272 (mt_readAll (F := ps_F F) hZ ii tt at_ uu hii NT ct dp pt R hW hD hR htt huu hf rfl h8 hG) (fun F1 B1 h9 => ?_)
  refine ev_aload_0 19 d_mo_pass_19 ?_
  refine mo_geti 20 54 d_mo_pass_20 lk_224 ?_
  refine ev_ifne 23 49 d_mo_pass_23 (fun c23 => ?_) (fun c23 => ?_)
  · obtain ⟨r, hx, a1, a2, a3, a4⟩ : ∃ r, rd_e (B 4) ct ii 5 (nI tt, nI uu, 1, at_, -1, 0) 0 B = .inl r ∧ F1 54 = r.1 ∧ F1 55 = r.2 ∧ (∀ k, k ≠ 36 → k ≠ 43 → k ≠ 54 → k ≠ 55 → F1 k = ps_F F k) ∧ mo_sc B B1 := by
      cases hx : rd_e (B 4) ct ii 5 (nI tt, nI uu, 1, at_, -1, 0) 0 B with
      | inl r => rw [hx] at h9; exact ⟨r, rfl, h9⟩
      | inr q => rw [hx] at h9; exact absurd (show F1 54 = 0 by rw [h9.1]; rfl) c23
    refine ev_iconst_0 49 d_mo_pass_49 ?_
    refine ev_istore_6 50 d_mo_pass_50 ?_
    refine ev_aload_0 52 d_mo_pass_52 ?_
    refine mo_getr 53 38 50 d_mo_pass_53 lk_129 ?_
    refine ev_iconst_0 56 d_mo_pass_56 ?_
    refine ev_iload_6 57 d_mo_pass_57 ?_
    refine ev_sndi (nI (0)) (by rfl) ?_
    refine mo_astn (j := 0) 59 38 50 d_mo_pass_59 (by show 0 < 200; omega) ?_
    refine ev_iconst_0 60 d_mo_pass_60 ?_
    refine ev_istore_7 61 d_mo_pass_61 ?_
    exact ev_eq (X63 F1 (va_up B1 50 (upd (B1 50) 0 0)) 0 c23 (by rw [hx]; exact ⟨F1, _, a1, a2, a3, a4.tr (mo_sc.up (k := 50) (by omega)), rfl, rfl⟩))
  · obtain ⟨q, hx, e1, hq2, hqs, hag⟩ : ∃ q, rd_e (B 4) ct ii 5 (nI tt, nI uu, 1, at_, -1, 0) 0 B = .inr q ∧ F1 = (upd (upd (ps_F F) 43 (nI q.1)) 36 (nI 0)) ∧ q.1 ≤ 200 ∧ mo_sc B q.2 ∧ mo_ag q.2 B1 := by
      cases hx : rd_e (B 4) ct ii 5 (nI tt, nI uu, 1, at_, -1, 0) 0 B with
      | inl r => rw [hx] at h9; exact absurd (show r.1 ≤ 0 by rw [← h9.1, c23]; decide) (rd_eK hx).1
      | inr q => rw [hx] at h9; exact ⟨q, rfl, h9⟩
    subst F1
    have e4 : B1 4 = B 4 := (hag 4 (by omega)).trans (hqs 4 (by omega) (by omega) (by omega) (by omega))
    have e5 : B1 5 = B 5 := (hag 5 (by omega)).trans (hqs 5 (by omega) (by omega) (by omega) (by omega))
    have e14 : B1 14 = B 14 := (hag 14 (by omega)).trans (hqs 14 (by omega) (by omega) (by omega) (by omega))
    have hT := hW.1
    obtain ⟨z1, z2, z3, z4, z5, -⟩ := hS.1 uu huu
    refine ev_aload_0 26 d_mo_pass_26 ?_
    refine ev_iload_4 27 d_mo_pass_27 ?_
    refine ev_aload_0 29 d_mo_pass_29 ?_
    refine mo_getr 30 2 4 d_mo_pass_30 lk_16 ?_
    refine ev_iload_5 33 d_mo_pass_33 ?_
    refine mo_aldn (j := uu) 35 2 4 d_mo_pass_35 (by show uu < 32; omega) ?_
    refine ev_topi (nI (sz uu)) (show B1 4 uu = nI (sz uu) by rw [e4]; exact z1) ?_
    refine ev_aload_0 36 d_mo_pass_36 ?_
    refine mo_getr 37 3 5 d_mo_pass_37 lk_19 ?_
    refine ev_iload_5 40 d_mo_pass_40 ?_
    refine mo_aldn (j := uu) 42 3 5 d_mo_pass_42 (by show uu < 32; omega) ?_
    refine ev_topi (nI (al uu)) (show B1 5 uu = nI (al uu) by rw [e5]; exact z3) ?_
    refine mo_calli3 43 d_mo_pass_43 hZ kc_266 (mt_room (B := B1) hZ J (sz uu) (al uu) hJ (by omega) (by omega) (by omega) hp (by rw [e14]; exact hhp) hp2 (by have := mo_ut_le hp (al uu) (by omega); omega)) (fun y F9 B9 h9 => ?_)
    refine ev_goto 46 50 d_mo_pass_46 ?_
    refine ev_istore_6 50 d_mo_pass_50 ?_
    refine ev_aload_0 52 d_mo_pass_52 ?_
    refine mo_getr 53 38 50 d_mo_pass_53 lk_129 ?_
    refine ev_iconst_0 56 d_mo_pass_56 ?_
    refine ev_iload_6 57 d_mo_pass_57 ?_
    refine ev_sndi (nI (0)) (by rfl) ?_
    refine mo_astn (j := 0) 59 38 50 d_mo_pass_59 (by show 0 < 200; omega) ?_
    refine ev_iconst_0 60 d_mo_pass_60 ?_
    refine ev_istore_7 61 d_mo_pass_61 ?_
    rcases h9 with ⟨hr, ey, e1, e2⟩ | ⟨hr, ey, e1, e2⟩
    · subst F9
      subst B9
      subst ey
      exact ev_eq (X63 (mo_fl (upd (upd (ps_F F) 43 (nI q.1)) 36 (nI 0)) 11 (nI (mo_ut hp (al uu)))) (va_up B1 50 (upd (B1 50) 0 0)) 0 (by rw [mo_fl1 (show (upd (upd (ps_F F) 43 (nI q.1)) 36 (nI 0)) 54 = 0 from rfl)]; decide) (by rw [hx]; exact ⟨B1, hag, Or.inl ⟨hr, rfl, rfl⟩⟩))
    · subst F9
      subst B9
      subst ey
      have k200 : kp 200 q.2 B1 := fun f h1 h2 k _ => congrFun (hag f (by omega)) k
      obtain ⟨q1, q2, q3, q4, q5, q6, q7⟩ := rd_it0 hW hD hR hS h8 hii htt huu hf hx
      exact ev_eq (L63 q B1 hx hq2 hag hr (hW.co ((hag 7 (by omega)).trans (hqs 7 (by omega) (by omega) (by omega) (by omega))) ((hag 8 (by omega)).trans (hqs 8 (by omega) (by omega) (by omega) (by omega)))) (by unfold ty_rd; rw [(hag 5 (by omega)).trans (hqs 5 (by omega) (by omega) (by omega) (by omega)), (hag 2 (by omega)).trans (hqs 2 (by omega) (by omega) (by omega) (by omega)), (hag 4 (by omega)).trans (hqs 4 (by omega) (by omega) (by omega) (by omega))]; exact hD) (by unfold ty_sz; rw [(hag 5 (by omega)).trans (hqs 5 (by omega) (by omega) (by omega) (by omega)), (hag 2 (by omega)).trans (hqs 2 (by omega) (by omega) (by omega) (by omega)), (hag 4 (by omega)).trans (hqs 4 (by omega) (by omega) (by omega) (by omega)), (hag 9 (by omega)).trans (hqs 9 (by omega) (by omega) (by omega) (by omega))]; exact hS) (fun k hk => (q7 k hk).tr (hag 2 (by omega)) (hag 8 (by omega)) k200 (by omega)) (q.1 + 1) 0 _ _ (by omega) (by omega) rfl rfl (Or.inl rfl) (fun _ => ⟨((wr_sm.up (k := 13) (by omega)).tr (wr_sm.up (k := 14) (by omega))).tr (wr_sm.up (k := 50) (by omega)), ⟨mo_ut hp (al uu) + sz uu, hr, upd_eq⟩, ⟨0, rfl, Nat.zero_le _⟩, ⟨mo_ut hp (al uu), uu, huu, upd_eq (f := B1 50) (k := 0) (x := nI (mo_ut hp (al uu))), (congrFun (hag 44 (by omega)) 0).trans q2, hr⟩, fun a ha => absurd ha (Nat.not_lt_zero a)⟩))
