set_option maxHeartbeats 4000000 in
set_option maxRecDepth 100000 in
theorem mt_numberF {l : Launch} {D : va_G} {tl : List (ClassId × FieldType)} {Z : (Nat → Prop) → State → Heap → Prop} {kI kZ : ClassId} {am : Nat → Nat} {F : Nat → Int32} {B : Nat → Nat → Int32} (hZ : ev_Zok Z) (ii : Nat) (p : Int32) (k : Nat) (h0 : ¬ F 54 = 0) : MT (mo_π l D cl_A kI kZ tl Z) m_number 0 0 [.ref (am 60), .int (nI ii), .int p, .int (nI k)] (mo_W mo_ci am kI kZ F B) (mo_qi am kI kZ (fun x F1 B1 => x = 0 ∧ F1 = F ∧ B1 = B)) := by
  refine mt_of mo_pl rfl (Nat.le_of_ble_eq_true rfl) (ev_eq (lv' := [some (.ref (am 60)), some (.int (nI ii)), some (.int p), some (.int (nI k)), none, none]) ?_)
  refine ev_iconst_0 0 d_mo_number_0 ?_
  refine ev_istore_4 1 d_mo_number_1 ?_
  refine ev_iconst_0 3 d_mo_number_3 ?_
  refine ev_istore_5 4 d_mo_number_4 ?_
  refine ev_iload_5 6 d_mo_number_6 ?_
  refine ev_iload_3 8 d_mo_number_8 ?_
  refine ev_icmpge 9 45 d_mo_number_9 (fun c9 => ?_) (fun c9 => ?_)
  · refine ev_iload_4 45 d_mo_number_45 ?_
    refine ev_iret 47 d_mo_number_47 rfl ?_
    exact ⟨_, _, _, rfl, rfl, rfl, rfl, rfl⟩
  · refine ev_aload_0 12 d_mo_number_12 ?_
    refine mo_geti 13 54 d_mo_number_13 lk_224 ?_
    refine ev_ifne 16 45 d_mo_number_16 (fun c16 => ?_) (fun c16 => ?_)
    · refine ev_iload_4 45 d_mo_number_45 ?_
      refine ev_iret 47 d_mo_number_47 rfl ?_
      exact ⟨_, _, _, rfl, rfl, rfl, rfl, rfl⟩
    · exact absurd c16 h0

theorem mt_numberG {l : Launch} {D : va_G} {tl : List (ClassId × FieldType)} {Z : (Nat → Prop) → State → Heap → Prop} {kI kZ : ClassId} {am : Nat → Nat} {F : Nat → Int32} {B : Nat → Nat → Int32} (hZ : ev_Zok Z) (ii : Nat) (p : Int32) (k : Nat) (hii : ii < 6) (hk : k ≤ 100) : MT (mo_π l D cl_A kI kZ tl Z) m_number 0 0 [.ref (am 60), .int (nI ii), .int p, .int (nI k)] (mo_W mo_ci am kI kZ F B) (mo_qi am kI kZ (fun x F1 B1 => ((F 54 = 0 ∧ mo_rg p k = none ∧ F1 = F ∧ x = mo_nb (B 13) ii p k) ∨ (F 54 = 0 ∧ ∃ q, mo_rg p k = some q ∧ F1 = mo_fl F 1 q) ∨ (¬ F 54 = 0 ∧ F1 = F)) ∧ B1 = B)) := by
  by_cases h0 : F 54 = 0
  · refine mt_mono (mt_number hZ ii p k hii hk h0) ?_
    rintro r w ⟨x, F1, B1, e1, e2, h | h, e3⟩
    · exact ⟨x, F1, B1, e1, e2, Or.inl ⟨h0, h⟩, e3⟩
    · exact ⟨x, F1, B1, e1, e2, Or.inr (Or.inl ⟨h0, h⟩), e3⟩
  · refine mt_mono (mt_numberF hZ ii p k h0) ?_
    rintro r w ⟨x, F1, B1, e1, e2, -, h, e3⟩
    exact ⟨x, F1, B1, e1, e2, Or.inr (Or.inr ⟨h0, h⟩), e3⟩
theorem nx_or (a b : Nat) : nI a ||| nI b = nI (a ||| b) := by
  apply Int32.toBitVec_inj.1
  show BitVec.ofNat 32 a ||| BitVec.ofNat 32 b = BitVec.ofNat 32 (a ||| b)
  apply BitVec.eq_of_getLsbD_eq
  intro i hi
  simp [hi]
theorem nb_or2 {a b : Nat} (ha : a < 256) (hb : b < 256) : ((0 : Int32) ||| (nI a <<< ((8 * nI 0) &&& 31))) ||| (nI b <<< ((8 * nI 1) &&& 31)) = nI (a + 256 * b) := by
  rw [pk_shlN (n := a) _ 0 (by decide) (by omega), pk_shlN (n := b) _ 8 (by decide) (by omega), show (0 : Int32) = nI 0 from rfl, nx_or, nx_or]
  congr 1
  rw [Nat.zero_or, Nat.pow_zero, Nat.mul_one, Nat.or_comm, ← Nat.shiftLeft_eq, ← Nat.shiftLeft_add_eq_or_of_lt ha b, Nat.shiftLeft_eq]
  omega
/-- the memory holds bytes -/
def mo_b8 (B : Nat → Nat → Int32) : Prop := ∀ j, j < 1536 → ∃ b, b < 256 ∧ B 13 j = nI b
theorem mo_b8_at {B : Nat → Nat → Int32} (h8 : mo_b8 B) {ii : Nat} (hi : ii < 6) {p : Int32} (h : ¬ (p < 0 ∨ 255 < p)) : ∃ b, b < 256 ∧ B 13 (256 * nI ii + p).toNatClampNeg = nI b := by
  obtain ⟨j, hj, e⟩ := vp_in_of (mo_bb hi p (fun z => h (Or.inl z)) (fun z => h (Or.inr z))) (by decide)
  rw [e, nI_clamp (by omega)]
  exact h8 j hj
theorem mo_nb2 {B : Nat → Nat → Int32} (h8 : mo_b8 B) {ii : Nat} (hi : ii < 6) {p : Int32} (h : mo_rg p 2 = none) : ∃ v, v ≤ 65535 ∧ mo_nb (B 13) ii p 2 = nI v := by
  have h1 : mo_rg p 1 = none := mo_rg_le 1 h
  have g0 : ¬ (p + nI 0 < 0 ∨ 255 < p + nI 0) := by
    rw [mo_rg, show mo_rg p 0 = none from rfl] at h1
    exact fun z => by rw [if_pos z] at h1; cases h1
  have g1 : ¬ (p + nI 1 < 0 ∨ 255 < p + nI 1) := by
    rw [mo_rg, h1] at h
    exact fun z => by rw [if_pos z] at h; cases h
  obtain ⟨a, ha, ea⟩ := mo_b8_at h8 hi g0
  obtain ⟨b, hb, eb⟩ := mo_b8_at h8 hi g1
  refine ⟨a + 256 * b, by omega, ?_⟩
  rw [mo_nb, mo_nb, mo_nb, ea, eb]
  exact nb_or2 ha hb
def ri_B0 (B : Nat → Nat → Int32) (nn uu : Nat) (p ab inn : Int32) : Nat → Nat → Int32 := va_up (va_up (va_up (va_up B 44 (upd (B 44) nn (nI uu))) 45 (upd (B 45) nn p)) 46 (upd (B 46) nn ab)) 47 (upd (B 47) nn inn)
abbrev ri_E : Type := Int32 × Int32 × Int32 × Int32 × Int32 × Int32
abbrev ri_T : Type := (Int32 × Int32) ⊕ ((Nat → Nat → Int32) × Nat × (Nat → ri_E))
/-- part k of a record or variant, to wait -/
def ri_e (B : Nat → Nat → Int32) (tt uu : Nat) (p : Int32) (nn k : Nat) : ri_E := (B 8 (6 * tt + k), B 8 (6 * uu + k), 1, p + B 9 (6 * tt + k), nI nn, B 9 (6 * uu + k))
def ri_B1 (B : Nat → Nat → Int32) (ii nn uu : Nat) (p ab inn : Int32) : Nat → Nat → Int32 := va_up (va_up (ri_B0 B nn uu p ab inn) 48 (upd (B 48) nn (mo_nb (B 13) ii p 2))) 49 (upd (B 49) nn (mo_nb (B 13) ii (p + 2) 2))
/-- where a text or a list stands: a trap or none -/
def ri_h (p : Int32) : Option Int32 := match mo_rg p 2 with
  | some q => some q
  | none => mo_rg (p + 2) 2
/-- one item: a trap, or the tables behind it and what waits then -/
def ri_1 (B : Nat → Nat → Int32) (ct : Nat → Nat) (ii tt uu : Nat) (p ab inn : Int32) (nn : Nat) : ri_T :=
  if nn = 200 then .inl (10, p) else
  if ¬ p - p / B 5 tt * B 5 tt = 0 then .inl (5, p) else
  if B 2 tt = 6 then (match ri_h p with
    | some q => .inl (1, q)
    | none => match tx_r (B 13) ii (mo_nb (B 13) ii p 2).toNatClampNeg (mo_nb (B 13) ii (p + 2) 2).toNatClampNeg ((mo_nb (B 13) ii (p + 2) 2).toNatClampNeg + 1) 0 with
      | some r => .inl r
      | none => .inr (ri_B1 B ii nn uu p ab inn, 0, fun _ => (0, 0, 0, 0, 0, 0))) else
  if B 2 tt = 8 then (match ri_h p with
    | some q => .inl (1, q)
    | none => if mo_nb (B 13) ii (p + 2) 2 ≤ 0 then .inr (ri_B1 B ii nn uu p ab inn, 0, fun _ => (0, 0, 0, 0, 0, 0))
      else .inr (ri_B1 B ii nn uu p ab inn, 1, fun _ => (B 8 (6 * tt), B 8 (6 * uu), mo_nb (B 13) ii (p + 2) 2, mo_nb (B 13) ii p 2, nI nn, 0))) else
  if B 2 tt = 9 then .inr (ri_B0 B nn uu p ab inn, ty_sh ct tt uu, fun j => ri_e B tt uu p nn (ty_sh ct tt uu - 1 - j)) else
  if B 2 tt = 10 then (if p < 0 ∨ 255 < p then .inl (1, p) else if ¬ B 13 (256 * nI ii + p).toNatClampNeg < B 7 tt then .inl (2, p)
    else .inr (ri_B0 B nn uu p ab inn, 1, fun _ => ri_e B tt uu p nn (B 13 (256 * nI ii + p).toNatClampNeg).toNatClampNeg)) else
  if ¬ B 2 tt ≤ 10 then (match (mo_rh (ri_B0 B nn uu p ab inn) ii tt p nn).1 with
    | some r => .inl r
    | none => .inr ((mo_rh (ri_B0 B nn uu p ab inn) ii tt p nn).2, 0, fun _ => (0, 0, 0, 0, 0, 0))) else
  (match mo_rp B ii tt p with
    | some r => .inl r
    | none => .inr (ri_B0 B nn uu p ab inn, 0, fun _ => (0, 0, 0, 0, 0, 0)))
/-- what is kept for the length of a passing alone -/
def mo_sc (B B' : Nat → Nat → Int32) : Prop := ∀ k, k ≠ 20 → k ≠ 21 → (k < 37 ∨ 42 < k) → (k < 44 ∨ 51 < k) → B' k = B k
theorem mo_sc.rf (B : Nat → Nat → Int32) : mo_sc B B := fun _ _ _ _ _ => rfl
theorem mo_sc.tr {B B' B'' : Nat → Nat → Int32} (a : mo_sc B B') (b : mo_sc B' B'') : mo_sc B B'' := fun k h1 h2 h3 h4 => (b k h1 h2 h3 h4).trans (a k h1 h2 h3 h4)
theorem mo_sc.up {B : Nat → Nat → Int32} {k : Nat} {g : Nat → Int32} (h : k = 20 ∨ k = 21 ∨ (37 ≤ k ∧ k ≤ 42) ∨ (44 ≤ k ∧ k ≤ 51)) : mo_sc B (va_up B k g) := by
  intro j h1 h2 h3 h4
  exact va_up_ne B g (by omega)
theorem mo_sw.sc {h : Nat} {B B' : Nat → Nat → Int32} (a : mo_sw h B B') : mo_sc B B' := fun k _ _ h3 _ => a.1 k h3
theorem ri_B0_sc (B : Nat → Nat → Int32) (nn uu : Nat) (p ab inn : Int32) : mo_sc B (ri_B0 B nn uu p ab inn) := (((mo_sc.up (by omega)).tr (mo_sc.up (by omega))).tr (mo_sc.up (by omega))).tr (mo_sc.up (by omega))
def mo_ea (B : Nat → Nat → Int32) (w : Nat) (e : ri_E) : Prop := B 37 w = e.1 ∧ B 38 w = e.2.1 ∧ B 39 w = e.2.2.1 ∧ B 40 w = e.2.2.2.1 ∧ B 41 w = e.2.2.2.2.1 ∧ B 42 w = e.2.2.2.2.2
def ri_q (F : Nat → Int32) (B : Nat → Nat → Int32) (h nn : Nat) (R : ri_T) (F1 : Nat → Int32) (B1 : Nat → Nat → Int32) : Prop := match R with
  | .inl r => F1 54 = r.1 ∧ F1 55 = r.2 ∧ (∀ k, k ≠ 43 → k ≠ 54 → k ≠ 55 → F1 k = F k) ∧ mo_sc B B1
  | .inr q => F1 = upd (upd F 43 (nI (nn + 1))) 36 (nI (h + q.2.1)) ∧ mo_sw h q.1 B1 ∧ ∀ j, j < q.2.1 → mo_ea B1 (h + j) (q.2.2 j)
theorem upd_id {f : Nat → Int32} {k : Nat} {x : Int32} (h : f k = x) : upd f k x = f := by
  funext j; simp only [upd]; split
  · rename_i e; rw [e, h]
  · rfl
theorem ri_q0 {F : Nat → Int32} {B B' : Nat → Nat → Int32} {h nn : Nat} {e : Nat → ri_E} (hh : F 36 = nI h) : ri_q F B h nn (.inr (B', 0, e)) (upd F 43 (nI (nn + 1))) B' :=
  ⟨(upd_id (show upd F 43 (nI (nn + 1)) 36 = nI (h + 0) from hh)).symm, mo_sw.rf _ _, fun j hj => absurd hj (Nat.not_lt_zero j)⟩
theorem mo_fl3 {F : Nat → Int32} (h : F 54 = 0) (c p : Int32) : mo_fl F c p 54 = c ∧ mo_fl F c p 55 = p ∧ ∀ k, k ≠ 54 → k ≠ 55 → mo_fl F c p k = F k := by
  rw [mo_fl, if_pos h]
  exact ⟨rfl, rfl, fun k h1 h2 => (upd_ne h2).trans (upd_ne h1)⟩
theorem ri_qt {F : Nat → Int32} {B B1 : Nat → Nat → Int32} {h nn : Nat} {r : Int32 × Int32} (h0 : F 54 = 0) (hs : mo_sc B B1) : ri_q F B h nn (.inl r) (mo_fl F r.1 r.2) B1 := by
  obtain ⟨a, b, c⟩ := mo_fl3 h0 r.1 r.2
  exact ⟨a, b, fun k _ h2 h3 => c k h2 h3, hs⟩
theorem ri_qt2 {F : Nat → Int32} {B B1 : Nat → Nat → Int32} {h nn : Nat} {r : Int32 × Int32} {x : Int32} (h0 : F 54 = 0) (hs : mo_sc B B1) : ri_q F B h nn (.inl r) (mo_fl (upd F 43 x) r.1 r.2) B1 := by
  obtain ⟨a, b, c⟩ := mo_fl3 (F := upd F 43 x) h0 r.1 r.2
  exact ⟨a, b, fun k h1 h2 h3 => (c k h2 h3).trans (upd_ne h1), hs⟩
/-- the two numbers of a text or a list -/
theorem ri_hd {F F1 F2 : Nat → Int32} {B B' : Nat → Nat → Int32} {ii : Nat} {p x1 x2 : Int32} (h0 : F 54 = 0) (hB : B' 13 = B 13)
    (h1 : (F 54 = 0 ∧ mo_rg p 2 = none ∧ F1 = F ∧ x1 = mo_nb (B 13) ii p 2) ∨ (F 54 = 0 ∧ ∃ q, mo_rg p 2 = some q ∧ F1 = mo_fl F 1 q) ∨ (¬ F 54 = 0 ∧ F1 = F))
    (h2 : (F1 54 = 0 ∧ mo_rg (p + 2) 2 = none ∧ F2 = F1 ∧ x2 = mo_nb (B' 13) ii (p + 2) 2) ∨ (F1 54 = 0 ∧ ∃ q, mo_rg (p + 2) 2 = some q ∧ F2 = mo_fl F1 1 q) ∨ (¬ F1 54 = 0 ∧ F2 = F1)) :
    (F2 54 = 0 ∧ ri_h p = none ∧ mo_rg p 2 = none ∧ mo_rg (p + 2) 2 = none ∧ F2 = F ∧ x1 = mo_nb (B 13) ii p 2 ∧ x2 = mo_nb (B 13) ii (p + 2) 2) ∨ (¬ F2 54 = 0 ∧ ∃ q, ri_h p = some q ∧ F2 = mo_fl F 1 q) := by
  rcases h1 with ⟨-, a, e1, b⟩ | ⟨-, q, a, e1⟩ | ⟨a, -⟩
  · subst e1
    rcases h2 with ⟨-, a2, e2, b2⟩ | ⟨-, q, a2, e2⟩ | ⟨z, -⟩
    · subst e2
      exact Or.inl ⟨h0, by rw [ri_h, a]; exact a2, a, a2, rfl, b, by rw [hB] at b2; exact b2⟩
    · refine Or.inr ⟨by rw [e2, mo_fl1 h0]; decide, q, by rw [ri_h, a]; exact a2, e2⟩
    · exact absurd h0 z
  · have n1 : ¬ F1 54 = 0 := by rw [e1, mo_fl1 h0]; decide
    rcases h2 with ⟨z, -⟩ | ⟨z, -⟩ | ⟨-, e2⟩
    · exact absurd z n1
    · exact absurd z n1
    · subst e2
      exact Or.inr ⟨n1, q, by rw [ri_h, a], e1⟩
  · exact absurd h0 a

theorem mo_rh_sc (B : Nat → Nat → Int32) (ii tt : Nat) (p : Int32) (it : Nat) : mo_sc B (mo_rh B ii tt p it).2 := by
  unfold mo_rh
  split
  · exact mo_sc.rf _
  · split
    · exact mo_sc.rf _
    · split
      · exact mo_sc.up (by omega)
      · split
        · exact (mo_sc.up (by omega)).tr (mo_sc.up (by omega))
        · split
          · exact mo_sc.up (by omega)
          · split
            · exact mo_sc.up (by omega)
            · exact (mo_sc.up (by omega)).tr (mo_sc.up (by omega))

set_option maxHeartbeats 4000000 in
set_option maxRecDepth 100000 in
theorem mt_readItem {l : Launch} {D : va_G} {tl : List (ClassId × FieldType)} {Z : (Nat → Prop) → State → Heap → Prop} {kI kZ : ClassId} {am : Nat → Nat} {F : Nat → Int32} {B : Nat → Nat → Int32} (hZ : ev_Zok Z) (ii : Nat) (tt : Nat) (uu : Nat) (p : Int32) (ab : Int32) (inn : Int32) (hii : ii < 6) (NT : Nat) (ct dp : Nat → Nat) (pt : Nat → Nat → Nat) (hW : ty_wf B NT ct dp pt) (htt : tt < NT) (huu : uu < NT) (h0 : F 54 = 0) (h8 : mo_b8 B) (hal : ¬ B 5 tt = 0) (nn : Nat) (hnn : F 43 = nI nn) (hn200 : nn ≤ 200) (h : Nat) (hh : F 36 = nI h) (hh58 : h ≤ 58) (hG : ∀ y, y < 102 → ¬ B 16 y = 0 → vp_in (B 17 y) 1024) (hpl : ¬ B 2 tt = 6 → ¬ B 2 tt = 8 → ¬ B 2 tt = 9 → ¬ B 2 tt = 10 → B 2 tt ≤ 10 → ∃ sz, B 4 tt = nI sz ∧ 1 ≤ sz ∧ sz ≤ 8 ∧ (B 2 tt = 5 → sz = 4)) : MT (mo_π l D cl_A kI kZ tl Z) m_readItem 0 0 [.ref (am 60), .int (nI ii), .int (nI tt), .int (nI uu), .int p, .int ab, .int inn] (mo_W mo_ci am kI kZ F B) (mo_qv am kI kZ (fun F1 B1 => ri_q F B h nn (ri_1 B ct ii tt uu p ab inn nn) F1 B1)) := by
  refine mt_of mo_pl rfl (Nat.le_of_ble_eq_true rfl) (ev_eq (lv' := [some (.ref (am 60)), some (.int (nI ii)), some (.int (nI tt)), some (.int (nI uu)), some (.int p), some (.int ab), some (.int inn), none, none, none]) ?_)
  have hn2e : ∀ (c7 : ¬ F 43 = 200), ¬ nn = 200 := fun c7 z => c7 (by rw [hnn, z]; rfl)
  have hsh : ty_sh ct tt uu ≤ ct tt ∧ ty_sh ct tt uu ≤ ct uu ∧ ty_sh ct tt uu ≤ 6 := by
    have h1 := (hW.2.1 tt htt).2.1
    have h2 := (hW.2.1 uu huu).2.1
    unfold ty_sh; split <;> omega
  have hT32 := hW.1
  have PU : ¬ nn = 200 → p - p / B 5 tt * B 5 tt = 0 → ¬ B 2 tt = 6 → ¬ B 2 tt = 8 → B 2 tt = 9 → ∀ (r : Nat) (B1 : Nat → Nat → Int32), r ≤ ty_sh ct tt uu → mo_sw h (ri_B0 B nn uu p ab inn) B1 → (∀ j, j < ty_sh ct tt uu - r → mo_ea B1 (h + j) (ri_e B tt uu p nn (ty_sh ct tt uu - 1 - j))) → EV (mo_π l D cl_A kI kZ tl Z) m_readItem (ev_E (mo_π l D cl_A kI kZ tl Z) 0 0 (mo_qv am kI kZ (fun F1 B1 => ri_q F B h nn (ri_1 B ct ii tt uu p ab inn nn) F1 B1))) 0 0 256 [some (.ref (am 60)), some (.int (nI ii)), some (.int (nI tt)), some (.int (nI uu)), some (.int p), some (.int ab), some (.int inn), some (.int (nI nn)), some (.int (B 2 tt)), some (.int (nI r - 1))] [] (mo_W mo_ci am kI kZ (upd (upd F 43 (nI (nn + 1))) 36 (nI (h + (ty_sh ct tt uu - r)))) B1) := by
    intro hn2 c28 c102 c109 c243 r
    induction r with
    | zero =>
      intro B1 hr hs hj
      refine ev_iload_9 256 d_mo_readItem_256 ?_
      refine ev_iflt 258 325 d_mo_readItem_258 (fun c258 => ?_) (fun c258 => ?_)
      · refine ev_goto 325 458 d_mo_readItem_325 ?_
        refine ev_vret 458 d_mo_readItem_458 rfl ?_
        exact ⟨_, _, rfl, rfl, by rw [ri_1, if_neg hn2, if_neg (fun z => z c28), if_neg c102, if_neg c109, if_pos c243]; exact ⟨by rw [Nat.sub_zero], hs, fun j hjj => hj j (by omega)⟩⟩
      · exact absurd (by decide) c258
    | succ r ih =>
      intro B1 hr hs hj
      have h8e : B1 8 = B 8 := hs.1 8 (by omega)
      have h9e : B1 9 = B 9 := hs.1 9 (by omega)
      rw [nI_pred]
      refine ev_iload_9 256 d_mo_readItem_256 ?_
      refine ev_iflt 258 325 d_mo_readItem_258 (fun c258 => ?_) (fun c258 => ?_)
      · exact absurd c258 (nI_pos (by omega))
      · refine ev_aload_0 261 d_mo_readItem_261 ?_
        refine ev_aload_0 262 d_mo_readItem_262 ?_
        refine mo_getr 263 6 8 d_mo_readItem_263 lk_28 ?_
        refine ev_bipush (6) 266 d_mo_readItem_266 (by decide) ?_
        refine ev_iload_2 268 d_mo_readItem_268 ?_
        refine ev_imul 269 d_mo_readItem_269 ?_
        refine ev_iload_9 270 d_mo_readItem_270 ?_
        refine ev_iadd 272 d_mo_readItem_272 ?_
        refine ev_topi (nI (6 * tt + r)) (by rw [n_6, pk_mul, nI_add]) ?_
        refine mo_aldn (j := 6 * tt + r) 273 6 8 d_mo_readItem_273 (by show 6 * tt + r < 192; omega) ?_
        refine ev_aload_0 274 d_mo_readItem_274 ?_
        refine mo_getr 275 6 8 d_mo_readItem_275 lk_28 ?_
        refine ev_bipush (6) 278 d_mo_readItem_278 (by decide) ?_
        refine ev_iload_3 280 d_mo_readItem_280 ?_
        refine ev_imul 281 d_mo_readItem_281 ?_
        refine ev_iload_9 282 d_mo_readItem_282 ?_
        refine ev_iadd 284 d_mo_readItem_284 ?_
        refine ev_topi (nI (6 * uu + r)) (by rw [n_6, pk_mul, nI_add]) ?_
        refine mo_aldn (j := 6 * uu + r) 285 6 8 d_mo_readItem_285 (by show 6 * uu + r < 192; omega) ?_
        refine ev_iconst_1 286 d_mo_readItem_286 ?_
        refine ev_iload_4 287 d_mo_readItem_287 ?_
        refine ev_aload_0 289 d_mo_readItem_289 ?_
        refine mo_getr 290 7 9 d_mo_readItem_290 lk_31 ?_
        refine ev_bipush (6) 293 d_mo_readItem_293 (by decide) ?_
        refine ev_iload_2 295 d_mo_readItem_295 ?_
        refine ev_imul 296 d_mo_readItem_296 ?_
        refine ev_iload_9 297 d_mo_readItem_297 ?_
        refine ev_iadd 299 d_mo_readItem_299 ?_
        refine ev_topi (nI (6 * tt + r)) (by rw [n_6, pk_mul, nI_add]) ?_
        refine mo_aldn (j := 6 * tt + r) 300 7 9 d_mo_readItem_300 (by show 6 * tt + r < 192; omega) ?_
        refine ev_iadd 301 d_mo_readItem_301 ?_
        refine ev_iload_7 302 d_mo_readItem_302 ?_
        refine ev_aload_0 304 d_mo_readItem_304 ?_
        refine mo_getr 305 7 9 d_mo_readItem_305 lk_31 ?_
        refine ev_bipush (6) 308 d_mo_readItem_308 (by decide) ?_
        refine ev_iload_3 310 d_mo_readItem_310 ?_
        refine ev_imul 311 d_mo_readItem_311 ?_
        refine ev_iload_9 312 d_mo_readItem_312 ?_
        refine ev_iadd 314 d_mo_readItem_314 ?_
        refine ev_topi (nI (6 * uu + r)) (by rw [n_6, pk_mul, nI_add]) ?_
        refine mo_aldn (j := 6 * uu + r) 315 7 9 d_mo_readItem_315 (by show 6 * uu + r < 192; omega) ?_
        refine mo_callv6 316 d_mo_readItem_316 hZ kc_184 (mt_await hZ _ _ _ _ _ _ (by rw [upd_eq]; exact vp_in_nI (by omega) (by decide))) (fun F9 B9 h9 => ?_)
        obtain ⟨e1, e2⟩ := h9
        subst F9
        subst B9
        refine ev_iinc_9 319 d_mo_readItem_319 ?_
        refine ev_goto 322 256 d_mo_readItem_322 ?_
        rw [upd_eq, nI_clamp (by omega), h8e, h9e]
        have hat := mo_aw_at B1 (h + (ty_sh ct tt uu - (r + 1))) (B 8 (6 * tt + r)) (B 8 (6 * uu + r)) 1 (p + B 9 (6 * tt + r)) (nI nn) (B 9 (6 * uu + r))
        have hsw := mo_aw_sw B1 (h + (ty_sh ct tt uu - (r + 1))) (B 8 (6 * tt + r)) (B 8 (6 * uu + r)) 1 (p + B 9 (6 * tt + r)) (nI nn) (B 9 (6 * uu + r))
        refine ev_eq (ih (mo_aw B1 (h + (ty_sh ct tt uu - (r + 1))) (B 8 (6 * tt + r)) (B 8 (6 * uu + r)) 1 (p + B 9 (6 * tt + r)) (nI nn) (B 9 (6 * uu + r))) (by omega) (hs.tr (hsw.le (by omega))) (fun j hjj => ?_)) (h1 := by rw [n_m1]) (h3 := by rw [upd_upd, nI_1, show h + (ty_sh ct tt uu - (r + 1)) + 1 = h + (ty_sh ct tt uu - r) by omega])
        by_cases e : j = ty_sh ct tt uu - (r + 1)
        · subst e
          rw [show ty_sh ct tt uu - 1 - (ty_sh ct tt uu - (r + 1)) = r by omega]
          exact hat
        · obtain ⟨a1, a2, a3, a4, a5, a6⟩ := hsw.2 (h + j) (by omega)
          obtain ⟨b1, b2, b3, b4, b5, b6⟩ := hj j (by omega)
          exact ⟨a1.trans b1, a2.trans b2, a3.trans b3, a4.trans b4, a5.trans b5, a6.trans b6⟩
  refine ev_aload_0 0 d_mo_readItem_0 ?_
  refine mo_geti 1 43 d_mo_readItem_1 lk_237 ?_
  refine ev_sipush (200) 4 d_mo_readItem_4 (by decide) ?_
  refine ev_icmpne 7 19 d_mo_readItem_7 (fun c7 => ?_) (fun c7 => ?_)
  · have hn2 := hn2e c7
    refine ev_iload_4 19 d_mo_readItem_19 ?_
    refine ev_aload_0 21 d_mo_readItem_21 ?_
    refine mo_getr 22 3 5 d_mo_readItem_22 lk_19 ?_
    refine ev_iload_2 25 d_mo_readItem_25 ?_
    refine mo_aldn (j := tt) 26 3 5 d_mo_readItem_26 (by show tt < 32; omega) ?_
    refine ev_irem 27 d_mo_readItem_27 (by exact hal) ?_
    refine ev_ifeq 28 39 d_mo_readItem_28 (fun c28 => ?_) (fun c28 => ?_)
    · refine ev_aload_0 39 d_mo_readItem_39 ?_
      refine mo_geti 40 43 d_mo_readItem_40 lk_237 ?_
      refine ev_topi (nI nn) hnn ?_
      refine ev_istore_7 43 d_mo_readItem_43 ?_
      refine ev_aload_0 45 d_mo_readItem_45 ?_
      refine ev_dup_a 46 d_mo_readItem_46 ?_
      refine mo_geti 47 43 d_mo_readItem_47 lk_237 ?_
      refine ev_iconst_1 50 d_mo_readItem_50 ?_
      refine ev_iadd 51 d_mo_readItem_51 ?_
      refine mo_puti 52 43 d_mo_readItem_52 lp_237 ?_
      rw [hnn, nI_1]
      refine ev_aload_0 55 d_mo_readItem_55 ?_
      refine mo_getr 56 32 44 d_mo_readItem_56 lk_111 ?_
      refine ev_iload_7 59 d_mo_readItem_59 ?_
      refine ev_iload_3 61 d_mo_readItem_61 ?_
      refine mo_astn (j := nn) 62 32 44 d_mo_readItem_62 (by show nn < 200; omega) ?_
      refine ev_aload_0 63 d_mo_readItem_63 ?_
      refine mo_getr 64 33 45 d_mo_readItem_64 lk_114 ?_
      refine ev_iload_7 67 d_mo_readItem_67 ?_
      refine ev_iload_4 69 d_mo_readItem_69 ?_
      refine mo_astn (j := nn) 71 33 45 d_mo_readItem_71 (by show nn < 200; omega) ?_
      refine ev_aload_0 72 d_mo_readItem_72 ?_
      refine mo_getr 73 34 46 d_mo_readItem_73 lk_117 ?_
      refine ev_iload_7 76 d_mo_readItem_76 ?_
      refine ev_iload_5 78 d_mo_readItem_78 ?_
      refine mo_astn (j := nn) 80 34 46 d_mo_readItem_80 (by show nn < 200; omega) ?_
      refine ev_aload_0 81 d_mo_readItem_81 ?_
      refine mo_getr 82 35 47 d_mo_readItem_82 lk_120 ?_
      refine ev_iload_7 85 d_mo_readItem_85 ?_
      refine ev_iload_6 87 d_mo_readItem_87 ?_
      refine mo_astn (j := nn) 89 35 47 d_mo_readItem_89 (by show nn < 200; omega) ?_
      refine ev_eq (ws' := mo_W mo_ci am kI kZ (upd F 43 (nI (nn + 1))) (ri_B0 B nn uu p ab inn)) ?_
      refine ev_aload_0 90 d_mo_readItem_90 ?_
      refine mo_getr 91 0 2 d_mo_readItem_91 lk_7 ?_
      refine ev_iload_2 94 d_mo_readItem_94 ?_
      refine mo_aldn (j := tt) 95 0 2 d_mo_readItem_95 (by show tt < 32; omega) ?_
      refine ev_topi (B 2 tt) rfl ?_
      refine ev_istore_8 96 d_mo_readItem_96 ?_
      refine ev_iload_8 98 d_mo_readItem_98 ?_
      refine ev_bipush (6) 100 d_mo_readItem_100 (by decide) ?_
      refine ev_icmpeq 102 112 d_mo_readItem_102 (fun c102 => ?_) (fun c102 => ?_)
      · refine ev_aload_0 112 d_mo_readItem_112 ?_
        refine mo_getr 113 36 48 d_mo_readItem_113 lk_123 ?_
        refine ev_iload_7 116 d_mo_readItem_116 ?_
        refine ev_aload_0 118 d_mo_readItem_118 ?_
        refine ev_iload_1 119 d_mo_readItem_119 ?_
        refine ev_iload_4 120 d_mo_readItem_120 ?_
        refine ev_iconst_2 122 d_mo_readItem_122 ?_
        refine mo_calli3 123 d_mo_readItem_123 hZ kc_240 (mt_numberG hZ ii p 2 hii (by decide)) (fun x1 F1 B8 hv1 => ?_)
        obtain ⟨hv1, e2⟩ := hv1
        subst B8
        refine mo_astn (j := nn) 126 36 48 d_mo_readItem_126 (by show nn < 200; omega) ?_
        refine ev_aload_0 127 d_mo_readItem_127 ?_
        refine mo_getr 128 37 49 d_mo_readItem_128 lk_126 ?_
        refine ev_iload_7 131 d_mo_readItem_131 ?_
        refine ev_aload_0 133 d_mo_readItem_133 ?_
        refine ev_iload_1 134 d_mo_readItem_134 ?_
        refine ev_iload_4 135 d_mo_readItem_135 ?_
        refine ev_iconst_2 137 d_mo_readItem_137 ?_
        refine ev_iadd 138 d_mo_readItem_138 ?_
        refine ev_iconst_2 139 d_mo_readItem_139 ?_
        refine mo_calli3 140 d_mo_readItem_140 hZ kc_240 (mt_numberG hZ ii (p + 2) 2 hii (by decide)) (fun x2 F2 B9 hv2 => ?_)
        obtain ⟨hv2, e2⟩ := hv2
        subst B9
        have hd := ri_hd (F := upd F 43 (nI (nn + 1))) (B := B) h0 rfl hv1 hv2
        refine mo_astn (j := nn) 143 37 49 d_mo_readItem_143 (by show nn < 200; omega) ?_
        refine ev_aload_0 144 d_mo_readItem_144 ?_
        refine mo_geti 145 54 d_mo_readItem_145 lk_224 ?_
        refine ev_ifne 148 180 d_mo_readItem_148 (fun c148 => ?_) (fun c148 => ?_)
        · refine ev_aload_0 180 d_mo_readItem_180 ?_
          refine mo_geti 181 54 d_mo_readItem_181 lk_224 ?_
          refine ev_ifne 184 458 d_mo_readItem_184 (fun c184 => ?_) (fun c184 => ?_)
          · refine ev_vret 458 d_mo_readItem_458 rfl ?_
            obtain ⟨-, q, hq, e⟩ : ¬ F2 54 = 0 ∧ ∃ q, ri_h p = some q ∧ F2 = mo_fl (upd F 43 (nI (nn + 1))) 1 q := by
              rcases hd with z | z
              · exact absurd z.1 c148
              · exact z
            subst F2
            exact ⟨_, _, rfl, rfl, by rw [ri_1, if_neg hn2, if_neg (fun z => z c28), if_pos c102, hq]; exact ri_qt2 (r := (1, q)) h0 (((ri_B0_sc B nn uu p ab inn).tr (mo_sc.up (k := 48) (by omega))).tr (mo_sc.up (k := 49) (by omega)))⟩
          · exact absurd c184 c148
        · obtain ⟨-, hri, hr1, hr2, e, ex1, ex2⟩ : F2 54 = 0 ∧ ri_h p = none ∧ mo_rg p 2 = none ∧ mo_rg (p + 2) 2 = none ∧ F2 = upd F 43 (nI (nn + 1)) ∧ x1 = mo_nb (B 13) ii p 2 ∧ x2 = mo_nb (B 13) ii (p + 2) 2 := by
            rcases hd with z | z
            · exact z
            · exact absurd c148 z.1
          subst F2
          obtain ⟨fr, hfr2, hfr⟩ := mo_nb2 h8 hii hr1
          obtain ⟨mn, hmn2, hmn⟩ := mo_nb2 h8 hii hr2
          rw [hfr] at ex1
          rw [hmn] at ex2
          subst ex1
          subst ex2
          refine ev_iload_8 151 d_mo_readItem_151 ?_
          refine ev_bipush (6) 153 d_mo_readItem_153 (by decide) ?_
          refine ev_icmpne 155 180 d_mo_readItem_155 (fun c155 => ?_) (fun c155 => ?_)
          · exact absurd c102 c155
          · refine ev_aload_0 158 d_mo_readItem_158 ?_
            refine ev_iload_1 159 d_mo_readItem_159 ?_
            refine ev_aload_0 160 d_mo_readItem_160 ?_
            refine mo_getr 161 36 48 d_mo_readItem_161 lk_123 ?_
            refine ev_iload_7 164 d_mo_readItem_164 ?_
            refine mo_aldn (j := nn) 166 36 48 d_mo_readItem_166 (by show nn < 200; omega) ?_
            refine ev_topi (nI fr) (by show upd _ nn (nI fr) nn = nI fr; exact upd_eq) ?_
            refine ev_aload_0 167 d_mo_readItem_167 ?_
            refine mo_getr 168 37 49 d_mo_readItem_168 lk_126 ?_
            refine ev_iload_7 171 d_mo_readItem_171 ?_
            refine mo_aldn (j := nn) 173 37 49 d_mo_readItem_173 (by show nn < 200; omega) ?_
            refine ev_topi (nI mn) (by show upd _ nn (nI mn) nn = nI mn; exact upd_eq) ?_
            refine mo_callv3 174 d_mo_readItem_174 hZ kc_244 (mt_readText (F := upd F 43 (nI (nn + 1))) hZ ii fr mn hii hfr2 hmn2 h0) (fun F9 B9 h9 => ?_)
            obtain ⟨e1, e2⟩ := h9
            replace e1 : F9 = mo_fo (upd F 43 (nI (nn + 1))) (tx_r (B 13) ii fr mn (mn + 1) 0) := e1
            subst F9
            subst B9
            refine ev_goto 177 458 d_mo_readItem_177 ?_
            refine ev_vret 458 d_mo_readItem_458 rfl ?_
            cases hx : tx_r (B 13) ii fr mn (mn + 1) 0 with
            | none => exact ⟨_, _, rfl, rfl, by
                rw [ri_1, if_neg hn2, if_neg (fun z => z c28), if_pos c102, hri, hfr, hmn, nI_clamp (by omega), nI_clamp (by omega), hx]
                have := ri_q0 (B := B) (B' := ri_B1 B ii nn uu p ab inn) (nn := nn) (e := fun _ => (0, 0, 0, 0, 0, 0)) hh
                rw [ri_B1, hfr, hmn] at this ⊢
                exact this⟩
            | some r => exact ⟨_, _, rfl, rfl, by
                rw [ri_1, if_neg hn2, if_neg (fun z => z c28), if_pos c102, hri, hfr, hmn, nI_clamp (by omega), nI_clamp (by omega), hx]
                exact ri_qt2 h0 (((ri_B0_sc B nn uu p ab inn).tr (mo_sc.up (k := 48) (by omega))).tr (mo_sc.up (k := 49) (by omega)))⟩
      · refine ev_iload_8 105 d_mo_readItem_105 ?_
        refine ev_bipush (8) 107 d_mo_readItem_107 (by decide) ?_
        refine ev_icmpne 109 239 d_mo_readItem_109 (fun c109 => ?_) (fun c109 => ?_)
        · refine ev_iload_8 239 d_mo_readItem_239 ?_
          refine ev_bipush (9) 241 d_mo_readItem_241 (by decide) ?_
          refine ev_icmpne 243 328 d_mo_readItem_243 (fun c243 => ?_) (fun c243 => ?_)
          · refine ev_iload_8 328 d_mo_readItem_328 ?_
            refine ev_bipush (10) 330 d_mo_readItem_330 (by decide) ?_
            refine ev_icmpne 332 430 d_mo_readItem_332 (fun c332 => ?_) (fun c332 => ?_)
            · refine ev_iload_8 430 d_mo_readItem_430 ?_
              refine ev_bipush (10) 432 d_mo_readItem_432 (by decide) ?_
              refine ev_icmple 434 450 d_mo_readItem_434 (fun c434 => ?_) (fun c434 => ?_)
              · refine ev_aload_0 450 d_mo_readItem_450 ?_
                refine ev_iload_1 451 d_mo_readItem_451 ?_
                refine ev_iload_2 452 d_mo_readItem_452 ?_
                refine ev_iload_4 453 d_mo_readItem_453 ?_
                obtain ⟨sz, hsz, hs1, hs8, hz5⟩ := hpl c102 c109 c243 c332 c434
                refine mo_callv3 455 d_mo_readItem_455 hZ kc_251 (mt_readPlain (F := upd F 43 (nI (nn + 1))) (B := ri_B0 B nn uu p ab inn) hZ ii tt p hii (by omega) h0 sz hsz hs1 hs8 hz5) (fun F9 B9 h9 => ?_)
                obtain ⟨e1, e2⟩ := h9
                subst F9
                subst B9
                refine ev_vret 458 d_mo_readItem_458 rfl ?_
                rw [show mo_rp (ri_B0 B nn uu p ab inn) ii tt p = mo_rp B ii tt p from rfl]
                cases hx : mo_rp B ii tt p with
                | none => exact ⟨_, _, rfl, rfl, by rw [ri_1, if_neg hn2, if_neg (fun z => z c28), if_neg c102, if_neg c109, if_neg c243, if_neg c332, if_neg (fun z => z c434), hx]; exact ri_q0 hh⟩
                | some r => exact ⟨_, _, rfl, rfl, by rw [ri_1, if_neg hn2, if_neg (fun z => z c28), if_neg c102, if_neg c109, if_neg c243, if_neg c332, if_neg (fun z => z c434), hx]; exact ri_qt2 h0 (ri_B0_sc B nn uu p ab inn)⟩
              · refine ev_aload_0 437 d_mo_readItem_437 ?_
                refine ev_iload_1 438 d_mo_readItem_438 ?_
                refine ev_iload_2 439 d_mo_readItem_439 ?_
                refine ev_iload_4 440 d_mo_readItem_440 ?_
                refine ev_iload_7 442 d_mo_readItem_442 ?_
                refine mo_callv4 444 d_mo_readItem_444 hZ kc_247 (mt_readHandle (F := upd F 43 (nI (nn + 1))) (B := ri_B0 B nn uu p ab inn) hZ ii tt p nn hii (by omega) (by omega) h0 hG) (fun F9 B9 h9 => ?_)
                obtain ⟨e1, e2⟩ := h9
                subst F9
                subst B9
                refine ev_goto 447 458 d_mo_readItem_447 ?_
                refine ev_vret 458 d_mo_readItem_458 rfl ?_
                cases hx : (mo_rh (ri_B0 B nn uu p ab inn) ii tt p nn).1 with
                | none => exact ⟨_, _, rfl, rfl, by rw [ri_1, if_neg hn2, if_neg (fun z => z c28), if_neg c102, if_neg c109, if_neg c243, if_neg c332, if_pos c434, hx]; exact ri_q0 hh⟩
                | some r => exact ⟨_, _, rfl, rfl, by rw [ri_1, if_neg hn2, if_neg (fun z => z c28), if_neg c102, if_neg c109, if_neg c243, if_neg c332, if_pos c434, hx]; exact ri_qt2 h0 ((ri_B0_sc B nn uu p ab inn).tr (mo_rh_sc _ _ _ _ _))⟩
            · refine ev_aload_0 335 d_mo_readItem_335 ?_
              refine ev_iload_1 336 d_mo_readItem_336 ?_
              refine ev_iload_4 337 d_mo_readItem_337 ?_
              refine mo_calli2 339 d_mo_readItem_339 hZ kc_234 (mt_byteAt hZ (nI ii) p (mo_bb hii p)) (fun y F2 B9 h9 => ?_)
              obtain ⟨hb, e2⟩ := h9
              subst B9
              replace hb := mo_bp0 (F := upd F 43 (nI (nn + 1))) (B := B) h0 hb
              refine ev_istore_9 342 d_mo_readItem_342 ?_
              refine ev_iload_9 344 d_mo_readItem_344 ?_
              refine ev_aload_0 346 d_mo_readItem_346 ?_
              refine mo_getr 347 5 7 d_mo_readItem_347 lk_25 ?_
              refine ev_iload_2 350 d_mo_readItem_350 ?_
              refine mo_aldn (j := tt) 351 5 7 d_mo_readItem_351 (by show tt < 32; omega) ?_
              refine ev_icmplt 352 362 d_mo_readItem_352 (fun c352 => ?_) (fun c352 => ?_)
              · replace c352 : y < B 7 tt := c352
                refine ev_aload_0 362 d_mo_readItem_362 ?_
                refine mo_geti 363 54 d_mo_readItem_363 lk_224 ?_
                refine ev_ifne 366 427 d_mo_readItem_366 (fun c366 => ?_) (fun c366 => ?_)
                · refine ev_goto 427 458 d_mo_readItem_427 ?_
                  refine ev_vret 458 d_mo_readItem_458 rfl ?_
                  obtain ⟨hp, e⟩ : (p < 0 ∨ 255 < p) ∧ F2 = mo_fl (upd F 43 (nI (nn + 1))) 1 p := by
                    rcases hb with ⟨a, -, b, -⟩ | ⟨-, -, e, -⟩
                    · exact ⟨a, b⟩
                    · subst F2; exact absurd h0 c366
                  subst F2
                  exact ⟨_, _, rfl, rfl, by rw [ri_1, if_neg hn2, if_neg (fun z => z c28), if_neg c102, if_neg c109, if_neg c243, if_pos c332, if_pos hp]; exact ri_qt2 (r := (1, p)) h0 (ri_B0_sc B nn uu p ab inn)⟩
                · obtain ⟨hp, ey, e⟩ : ¬ (p < 0 ∨ 255 < p) ∧ y = B 13 (256 * nI ii + p).toNatClampNeg ∧ F2 = upd F 43 (nI (nn + 1)) := by
                    rcases hb with ⟨-, -, e, z⟩ | ⟨a, b, c, -⟩
                    · exact absurd (by rw [show F2 54 = 0 from c366]; decide) z
                    · exact ⟨a, b, c⟩
                  subst F2
                  obtain ⟨b, hb2, hby⟩ := mo_b8_at h8 hii hp
                  rw [hby] at ey
                  subst ey
                  have hc6 := (hW.2.1 tt htt).2.1
                  have hbl := n_lt b (ct tt) c352 rfl (hW.2.1 tt htt).1
                  refine ev_aload_0 369 d_mo_readItem_369 ?_
                  refine ev_aload_0 370 d_mo_readItem_370 ?_
                  refine mo_getr 371 6 8 d_mo_readItem_371 lk_28 ?_
                  refine ev_bipush (6) 374 d_mo_readItem_374 (by decide) ?_
                  refine ev_iload_2 376 d_mo_readItem_376 ?_
                  refine ev_imul 377 d_mo_readItem_377 ?_
                  refine ev_iload_9 378 d_mo_readItem_378 ?_
                  refine ev_iadd 380 d_mo_readItem_380 ?_
                  refine ev_topi (nI (6 * tt + b)) (by rw [n_6, pk_mul, nI_add]) ?_
                  refine mo_aldn (j := 6 * tt + b) 381 6 8 d_mo_readItem_381 (by show 6 * tt + b < 192; omega) ?_
                  refine ev_aload_0 382 d_mo_readItem_382 ?_
                  refine mo_getr 383 6 8 d_mo_readItem_383 lk_28 ?_
                  refine ev_bipush (6) 386 d_mo_readItem_386 (by decide) ?_
                  refine ev_iload_3 388 d_mo_readItem_388 ?_
                  refine ev_imul 389 d_mo_readItem_389 ?_
                  refine ev_iload_9 390 d_mo_readItem_390 ?_
                  refine ev_iadd 392 d_mo_readItem_392 ?_
                  refine ev_topi (nI (6 * uu + b)) (by rw [n_6, pk_mul, nI_add]) ?_
                  refine mo_aldn (j := 6 * uu + b) 393 6 8 d_mo_readItem_393 (by show 6 * uu + b < 192; omega) ?_
                  refine ev_iconst_1 394 d_mo_readItem_394 ?_
                  refine ev_iload_4 395 d_mo_readItem_395 ?_
                  refine ev_aload_0 397 d_mo_readItem_397 ?_
                  refine mo_getr 398 7 9 d_mo_readItem_398 lk_31 ?_
                  refine ev_bipush (6) 401 d_mo_readItem_401 (by decide) ?_
                  refine ev_iload_2 403 d_mo_readItem_403 ?_
                  refine ev_imul 404 d_mo_readItem_404 ?_
                  refine ev_iload_9 405 d_mo_readItem_405 ?_
                  refine ev_iadd 407 d_mo_readItem_407 ?_
                  refine ev_topi (nI (6 * tt + b)) (by rw [n_6, pk_mul, nI_add]) ?_
                  refine mo_aldn (j := 6 * tt + b) 408 7 9 d_mo_readItem_408 (by show 6 * tt + b < 192; omega) ?_
                  refine ev_iadd 409 d_mo_readItem_409 ?_
                  refine ev_iload_7 410 d_mo_readItem_410 ?_
                  refine ev_aload_0 412 d_mo_readItem_412 ?_
                  refine mo_getr 413 7 9 d_mo_readItem_413 lk_31 ?_
                  refine ev_bipush (6) 416 d_mo_readItem_416 (by decide) ?_
                  refine ev_iload_3 418 d_mo_readItem_418 ?_
                  refine ev_imul 419 d_mo_readItem_419 ?_
                  refine ev_iload_9 420 d_mo_readItem_420 ?_
                  refine ev_iadd 422 d_mo_readItem_422 ?_
                  refine ev_topi (nI (6 * uu + b)) (by rw [n_6, pk_mul, nI_add]) ?_
                  refine mo_aldn (j := 6 * uu + b) 423 7 9 d_mo_readItem_423 (by show 6 * uu + b < 192; omega) ?_
                  refine mo_callv6 424 d_mo_readItem_424 hZ kc_184 (mt_await hZ _ _ _ _ _ _ (by show vp_in (F 36) 64; rw [hh]; exact vp_in_nI (by omega) (by decide))) (fun F9 B9 h9 => ?_)
                  obtain ⟨e1, e2⟩ := h9
                  subst F9
                  subst B9
                  refine ev_goto 427 458 d_mo_readItem_427 ?_
                  refine ev_vret 458 d_mo_readItem_458 rfl ?_
                  exact ⟨_, _, rfl, rfl, by
                    rw [ri_1, if_neg hn2, if_neg (fun z => z c28), if_neg c102, if_neg c109, if_neg c243, if_pos c332, if_neg hp, if_neg (fun z => z (hby ▸ c352)), hby, nI_clamp (by omega)]
                    have hsw := mo_aw_sw (ri_B0 B nn uu p ab inn) h (B 8 (6 * tt + b)) (B 8 (6 * uu + b)) 1 (p + B 9 (6 * tt + b)) (nI nn) (B 9 (6 * uu + b))
                    have hat := mo_aw_at (ri_B0 B nn uu p ab inn) h (B 8 (6 * tt + b)) (B 8 (6 * uu + b)) 1 (p + B 9 (6 * tt + b)) (nI nn) (B 9 (6 * uu + b))
                    show _ = _ ∧ _
                    rw [show (upd F 43 (nI (nn + 1))) 36 = nI h from hh, nI_clamp (by omega), nI_1]
                    refine ⟨rfl, hsw, fun j hj => ?_⟩
                    obtain rfl : j = 0 := Nat.lt_one_iff.mp hj
                    exact hat⟩
              · replace c352 : ¬ y < B 7 tt := c352
                refine ev_aload_0 355 d_mo_readItem_355 ?_
                refine ev_iconst_2 356 d_mo_readItem_356 ?_
                refine ev_iload_4 357 d_mo_readItem_357 ?_
                refine mo_callv2 359 d_mo_readItem_359 hZ kc_230 (mt_fails hZ _ _) (fun F9 B9 h => ?_)
                obtain ⟨e1, e2⟩ := h
                subst F9
                subst B9
                refine ev_aload_0 362 d_mo_readItem_362 ?_
                refine mo_geti 363 54 d_mo_readItem_363 lk_224 ?_
                refine ev_ifne 366 427 d_mo_readItem_366 (fun c366 => ?_) (fun c366 => ?_)
                · refine ev_goto 427 458 d_mo_readItem_427 ?_
                  refine ev_vret 458 d_mo_readItem_458 rfl ?_
                  rcases hb with ⟨a, -, e, -⟩ | ⟨a, ey, e, -⟩
                  · subst F2
                    rw [mo_fl2 (by rw [mo_fl1 (show (upd F 43 (nI (nn + 1))) 54 = 0 from h0)]; decide)]
                    exact ⟨_, _, rfl, rfl, by rw [ri_1, if_neg hn2, if_neg (fun z => z c28), if_neg c102, if_neg c109, if_neg c243, if_pos c332, if_pos a]; exact ri_qt2 (r := (1, p)) h0 (ri_B0_sc B nn uu p ab inn)⟩
                  · subst F2; subst ey
                    exact ⟨_, _, rfl, rfl, by rw [ri_1, if_neg hn2, if_neg (fun z => z c28), if_neg c102, if_neg c109, if_neg c243, if_pos c332, if_neg a, if_pos c352]; exact ri_qt2 (r := (2, p)) h0 (ri_B0_sc B nn uu p ab inn)⟩
                · rcases hb with ⟨-, -, e, z⟩ | ⟨-, -, e, -⟩
                  · subst F2
                    rw [mo_fl2 (by rw [mo_fl1 (show (upd F 43 (nI (nn + 1))) 54 = 0 from h0)]; decide)] at c366
                    rw [mo_fl1 (show (upd F 43 (nI (nn + 1))) 54 = 0 from h0)] at c366
                    exact absurd c366 (by decide)
                  · subst F2
                    rw [mo_fl1 (show (upd F 43 (nI (nn + 1))) 54 = 0 from h0)] at c366
                    exact absurd c366 (by decide)
          · refine ev_aload_0 246 d_mo_readItem_246 ?_
            refine ev_iload_2 247 d_mo_readItem_247 ?_
            refine ev_iload_3 248 d_mo_readItem_248 ?_
            refine mo_calli2 249 d_mo_readItem_249 hZ kc_191 (mt_shared hZ (nI tt) (nI uu) (vp_in_nI (by omega) (by decide)) (vp_in_nI (by omega) (by decide))) (fun z F9 B9 h9 => ?_)
            obtain ⟨hz, e1, e2⟩ := h9
            subst F9
            subst B9
            rw [nI_clamp (by omega), nI_clamp (by omega)] at hz
            replace hz : z = nI (ty_sh ct tt uu) := hz.trans (ty_sh_eq (B := B) (hW.2.1 tt htt).1 (hW.2.1 uu huu).1 (hW.2.1 tt htt).2.1 (hW.2.1 uu huu).2.1)
            subst hz
            refine ev_iconst_1 252 d_mo_readItem_252 ?_
            refine ev_isub 253 d_mo_readItem_253 ?_
            refine ev_istore_9 254 d_mo_readItem_254 ?_
            refine ev_eq (PU hn2 c28 c102 c109 c243 (ty_sh ct tt uu) (ri_B0 B nn uu p ab inn) (Nat.le_refl _) (mo_sw.rf _ _) (fun j hj => absurd hj (by omega))) (h3 := by rw [Nat.sub_self, upd_id (show (upd F 43 (nI (nn + 1))) 36 = nI (h + 0) from hh)])
        · refine ev_aload_0 112 d_mo_readItem_112 ?_
          refine mo_getr 113 36 48 d_mo_readItem_113 lk_123 ?_
          refine ev_iload_7 116 d_mo_readItem_116 ?_
          refine ev_aload_0 118 d_mo_readItem_118 ?_
          refine ev_iload_1 119 d_mo_readItem_119 ?_
          refine ev_iload_4 120 d_mo_readItem_120 ?_
          refine ev_iconst_2 122 d_mo_readItem_122 ?_
          refine mo_calli3 123 d_mo_readItem_123 hZ kc_240 (mt_numberG hZ ii p 2 hii (by decide)) (fun x1 F1 B8 hv1 => ?_)
          obtain ⟨hv1, e2⟩ := hv1
          subst B8
          refine mo_astn (j := nn) 126 36 48 d_mo_readItem_126 (by show nn < 200; omega) ?_
          refine ev_aload_0 127 d_mo_readItem_127 ?_
          refine mo_getr 128 37 49 d_mo_readItem_128 lk_126 ?_
          refine ev_iload_7 131 d_mo_readItem_131 ?_
          refine ev_aload_0 133 d_mo_readItem_133 ?_
          refine ev_iload_1 134 d_mo_readItem_134 ?_
          refine ev_iload_4 135 d_mo_readItem_135 ?_
          refine ev_iconst_2 137 d_mo_readItem_137 ?_
          refine ev_iadd 138 d_mo_readItem_138 ?_
          refine ev_iconst_2 139 d_mo_readItem_139 ?_
          refine mo_calli3 140 d_mo_readItem_140 hZ kc_240 (mt_numberG hZ ii (p + 2) 2 hii (by decide)) (fun x2 F2 B9 hv2 => ?_)
          obtain ⟨hv2, e2⟩ := hv2
          subst B9
          have hd := ri_hd (F := upd F 43 (nI (nn + 1))) (B := B) h0 rfl hv1 hv2
          refine mo_astn (j := nn) 143 37 49 d_mo_readItem_143 (by show nn < 200; omega) ?_
          refine ev_aload_0 144 d_mo_readItem_144 ?_
          refine mo_geti 145 54 d_mo_readItem_145 lk_224 ?_
          refine ev_ifne 148 180 d_mo_readItem_148 (fun c148 => ?_) (fun c148 => ?_)
          · refine ev_aload_0 180 d_mo_readItem_180 ?_
            refine mo_geti 181 54 d_mo_readItem_181 lk_224 ?_
            refine ev_ifne 184 458 d_mo_readItem_184 (fun c184 => ?_) (fun c184 => ?_)
            · refine ev_vret 458 d_mo_readItem_458 rfl ?_
              obtain ⟨-, q, hq, e⟩ : ¬ F2 54 = 0 ∧ ∃ q, ri_h p = some q ∧ F2 = mo_fl (upd F 43 (nI (nn + 1))) 1 q := by
                rcases hd with z | z
                · exact absurd z.1 c148
                · exact z
              subst F2
              exact ⟨_, _, rfl, rfl, by rw [ri_1, if_neg hn2, if_neg (fun z => z c28), if_neg c102, if_pos c109, hq]; exact ri_qt2 (r := (1, q)) h0 (((ri_B0_sc B nn uu p ab inn).tr (mo_sc.up (k := 48) (by omega))).tr (mo_sc.up (k := 49) (by omega)))⟩
            · exact absurd c184 c148
          · obtain ⟨-, hri, hr1, hr2, e, ex1, ex2⟩ : F2 54 = 0 ∧ ri_h p = none ∧ mo_rg p 2 = none ∧ mo_rg (p + 2) 2 = none ∧ F2 = upd F 43 (nI (nn + 1)) ∧ x1 = mo_nb (B 13) ii p 2 ∧ x2 = mo_nb (B 13) ii (p + 2) 2 := by
              rcases hd with z | z
              · exact z
              · exact absurd c148 z.1
            subst F2
            obtain ⟨fr, hfr2, hfr⟩ := mo_nb2 h8 hii hr1
            obtain ⟨mn, hmn2, hmn⟩ := mo_nb2 h8 hii hr2
            rw [hfr] at ex1
            rw [hmn] at ex2
            subst ex1
            subst ex2
            refine ev_iload_8 151 d_mo_readItem_151 ?_
            refine ev_bipush (6) 153 d_mo_readItem_153 (by decide) ?_
            refine ev_icmpne 155 180 d_mo_readItem_155 (fun c155 => ?_) (fun c155 => ?_)
            · refine ev_aload_0 180 d_mo_readItem_180 ?_
              refine mo_geti 181 54 d_mo_readItem_181 lk_224 ?_
              refine ev_ifne 184 458 d_mo_readItem_184 (fun c184 => ?_) (fun c184 => ?_)
              · exact absurd h0 c184
              · refine ev_aload_0 187 d_mo_readItem_187 ?_
                refine mo_getr 188 37 49 d_mo_readItem_188 lk_126 ?_
                refine ev_iload_7 191 d_mo_readItem_191 ?_
                refine mo_aldn (j := nn) 193 37 49 d_mo_readItem_193 (by show nn < 200; omega) ?_
                refine ev_topi (nI mn) (by show upd _ nn (nI mn) nn = nI mn; exact upd_eq) ?_
                refine ev_ifle 194 458 d_mo_readItem_194 (fun c194 => ?_) (fun c194 => ?_)
                · refine ev_vret 458 d_mo_readItem_458 rfl ?_
                  exact ⟨_, _, rfl, rfl, by
                    rw [ri_1, if_neg hn2, if_neg (fun z => z c28), if_neg c102, if_pos c109, hri]
                    dsimp only
                    rw [if_pos (by rw [hmn]; exact c194)]
                    have := ri_q0 (B := B) (B' := ri_B1 B ii nn uu p ab inn) (nn := nn) (e := fun _ => (0, 0, 0, 0, 0, 0)) hh
                    rw [ri_B1, hfr, hmn] at this ⊢
                    exact this⟩
                · refine ev_aload_0 197 d_mo_readItem_197 ?_
                  refine ev_aload_0 198 d_mo_readItem_198 ?_
                  refine mo_getr 199 6 8 d_mo_readItem_199 lk_28 ?_
                  refine ev_bipush (6) 202 d_mo_readItem_202 (by decide) ?_
                  refine ev_iload_2 204 d_mo_readItem_204 ?_
                  refine ev_imul 205 d_mo_readItem_205 ?_
                  refine ev_topi (nI (6 * tt)) (by rw [n_6, pk_mul]) ?_
                  refine mo_aldn (j := 6 * tt) 206 6 8 d_mo_readItem_206 (by show 6 * tt < 192; omega) ?_
                  refine ev_aload_0 207 d_mo_readItem_207 ?_
                  refine mo_getr 208 6 8 d_mo_readItem_208 lk_28 ?_
                  refine ev_bipush (6) 211 d_mo_readItem_211 (by decide) ?_
                  refine ev_iload_3 213 d_mo_readItem_213 ?_
                  refine ev_imul 214 d_mo_readItem_214 ?_
                  refine ev_topi (nI (6 * uu)) (by rw [n_6, pk_mul]) ?_
                  refine mo_aldn (j := 6 * uu) 215 6 8 d_mo_readItem_215 (by show 6 * uu < 192; omega) ?_
                  refine ev_aload_0 216 d_mo_readItem_216 ?_
                  refine mo_getr 217 37 49 d_mo_readItem_217 lk_126 ?_
                  refine ev_iload_7 220 d_mo_readItem_220 ?_
                  refine mo_aldn (j := nn) 222 37 49 d_mo_readItem_222 (by show nn < 200; omega) ?_
                  refine ev_topi (nI mn) (by show upd _ nn (nI mn) nn = nI mn; exact upd_eq) ?_
                  refine ev_aload_0 223 d_mo_readItem_223 ?_
                  refine mo_getr 224 36 48 d_mo_readItem_224 lk_123 ?_
                  refine ev_iload_7 227 d_mo_readItem_227 ?_
                  refine mo_aldn (j := nn) 229 36 48 d_mo_readItem_229 (by show nn < 200; omega) ?_
                  refine ev_topi (nI fr) (by show upd _ nn (nI fr) nn = nI fr; exact upd_eq) ?_
                  refine ev_iload_7 230 d_mo_readItem_230 ?_
                  refine ev_iconst_0 232 d_mo_readItem_232 ?_
                  refine mo_callv6 233 d_mo_readItem_233 hZ kc_184 (mt_await hZ _ _ _ _ _ _ (by show vp_in (F 36) 64; rw [hh]; exact vp_in_nI (by omega) (by decide))) (fun F9 B9 h9 => ?_)
                  obtain ⟨e1, e2⟩ := h9
                  subst F9
                  subst B9
                  refine ev_goto 236 458 d_mo_readItem_236 ?_
                  refine ev_vret 458 d_mo_readItem_458 rfl ?_
                  exact ⟨_, _, rfl, rfl, by
                    rw [ri_1, if_neg hn2, if_neg (fun z => z c28), if_neg c102, if_pos c109, hri]
                    dsimp only
                    rw [if_neg (by rw [hmn]; exact c194)]
                    have hsw := mo_aw_sw (ri_B1 B ii nn uu p ab inn) h (B 8 (6 * tt)) (B 8 (6 * uu)) (nI mn) (nI fr) (nI nn) 0
                    have hat := mo_aw_at (ri_B1 B ii nn uu p ab inn) h (B 8 (6 * tt)) (B 8 (6 * uu)) (nI mn) (nI fr) (nI nn) 0
                    rw [hfr, hmn]
                    show _ = _ ∧ _
                    rw [show (upd F 43 (nI (nn + 1))) 36 = nI h from hh, nI_clamp (by omega), nI_1]
                    rw [ri_B1, hfr, hmn] at hsw hat ⊢
                    refine ⟨rfl, hsw, fun j hj => ?_⟩
                    obtain rfl : j = 0 := Nat.lt_one_iff.mp hj
                    exact hat⟩
            · exact absurd c155 c102
    · refine ev_aload_0 31 d_mo_readItem_31 ?_
      refine ev_iconst_5 32 d_mo_readItem_32 ?_
      refine ev_iload_4 33 d_mo_readItem_33 ?_
      refine mo_callv2 35 d_mo_readItem_35 hZ kc_230 (mt_fails hZ _ _) (fun F9 B9 h => ?_)
      obtain ⟨e1, e2⟩ := h
      subst F9
      subst B9
      refine ev_vret 38 d_mo_readItem_38 rfl ?_
      exact ⟨_, _, rfl, rfl, by rw [ri_1, if_neg hn2, if_pos c28]; exact ri_qt h0 (mo_sc.rf _)⟩
  · refine ev_aload_0 10 d_mo_readItem_10 ?_
    refine ev_bipush (10) 11 d_mo_readItem_11 (by decide) ?_
    refine ev_iload_4 13 d_mo_readItem_13 ?_
    refine mo_callv2 15 d_mo_readItem_15 hZ kc_230 (mt_fails hZ _ _) (fun F9 B9 h => ?_)
    obtain ⟨e1, e2⟩ := h
    subst F9
    subst B9
    refine ev_vret 18 d_mo_readItem_18 rfl ?_
    exact ⟨_, _, rfl, rfl, by rw [ri_1, if_pos (n_eq nn 200 c7 hnn)]; exact ri_qt h0 (mo_sc.rf _)⟩
