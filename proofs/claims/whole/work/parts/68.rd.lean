/-! reading: pure rows -/
def sp_S (S : gS) (c p : Int32) : gS := gsG (gsG S 14 0 (.int c)) 14 1 (.int p)
theorem gsG_2 (S : gS) (k j : Nat) (v v' : Value) : gsG (gsG S k j v) k j v' = gsG S k j v' := by
  have e : up2 (up2 S.1 k j v) k j v' = up2 S.1 k j v' := by
    funext a b
    by_cases e : a = k ∧ b = j
    · obtain ⟨rfl, rfl⟩ := e
      rw [up2_eq, up2_eq]
    · have h : a ≠ k ∨ b ≠ j := by
        by_cases f : a = k
        · exact Or.inr (fun z => e ⟨f, z⟩)
        · exact Or.inl f
      rw [up2_nj _ _ h, up2_nj _ _ h, up2_nj _ _ h]
  show (up2 (up2 S.1 k j v) k j v', S.2) = (up2 S.1 k j v', S.2)
  rw [e]
theorem gsG_eq (S : gS) (k j : Nat) (v : Value) : (gsG S k j v).1 k j = v := up2_eq S.1 k j v
theorem gsA_eq (S : gS) (k j : Nat) (v : Int32) : (gsA S k j v).2.1 k j = v := up2_eq S.2.1 k j v
theorem gsL_eq (S : gS) (k j : Nat) (v : Int64) : (gsL S k j v).2.2.2 k j = v := up2_eq S.2.2.2 k j v
theorem gsA_nj (S : gS) (k j : Nat) (v : Int32) {k' j' : Nat} (h : k' ≠ k ∨ j' ≠ j) : (gsA S k j v).2.1 k' j' = S.2.1 k' j' := up2_nj S.2.1 v h
theorem gsL_nj (S : gS) (k j : Nat) (v : Int64) {k' j' : Nat} (h : k' ≠ k ∨ j' ≠ j) : (gsL S k j v).2.2.2 k' j' = S.2.2.2 k' j' := up2_nj S.2.2.2 v h
def bb (B : Nat → Nat → Int32) (i : Nat) (q : Int32) : Nat := (B 13 (256 * nI i + q).toNatClampNeg).toNatClampNeg
def by_w (B : Nat → Nat → Int32) (i : Nat) (p : Int32) : Nat → Nat
  | 0 => 0
  | n + 1 => by_w B i p n + bb B i (p + nI n) * 256 ^ n
theorem rg_st {p q : Int32} {a : Nat} (h : mo_rg p a = some q) : ∀ b, a ≤ b → mo_rg p b = some q := by
  intro b
  induction b with
  | zero => intro hb; obtain rfl : a = 0 := by omega
            exact h
  | succ b ih =>
    intro hb
    by_cases e : a = b + 1
    · rw [← e]; exact h
    · rw [mo_rg, ih (by omega)]
theorem rg_in {p : Int32} {n : Nat} (h : mo_rg p (n + 1) = none) : mo_rg p n = none ∧ ¬ (p + nI n < 0 ∨ 255 < p + nI n) := by
  have h1 := mo_rg_le 1 h
  refine ⟨h1, fun z => ?_⟩
  rw [mo_rg, h1] at h
  dsimp only at h
  rw [if_pos z] at h
  cases h
theorem n_ia {i a : Nat} (hi : i < 6) (ha : a < 256) : (256 * nI i + nI a).toNatClampNeg = 256 * i + a := by
  have e : 256 * nI i + nI a = nI (256 * i + a) := by
    rw [← nI_add]
    congr 1
    exact (Int32.ofNat_mul 256 i).symm
  rw [e, nI_clamp (by omega)]
theorem bb_at {B : Nat → Nat → Int32} (h8 : mo_b8 B) {i a : Nat} (hi : i < 6) (ha : a < 256) : ∃ b, b < 256 ∧ B 13 (256 * i + a) = nI b ∧ bb B i (nI a) = b := by
  obtain ⟨b, hb, e⟩ := h8 (256 * i + a) (by omega)
  exact ⟨b, hb, e, by rw [bb, n_ia hi ha, e, nI_clamp (by omega)]⟩
theorem bb_p {B : Nat → Nat → Int32} (h8 : mo_b8 B) {i : Nat} (hi : i < 6) {q : Int32} (h : ¬ (q < 0 ∨ 255 < q)) : bb B i q < 256 ∧ B 13 (256 * nI i + q).toNatClampNeg = nI (bb B i q) := by
  obtain ⟨b, hb, e⟩ := mo_b8_at h8 hi h
  have e2 : bb B i q = b := by rw [bb, e, nI_clamp (by omega)]
  rw [e2]
  exact ⟨hb, e⟩
theorem by_lt {B : Nat → Nat → Int32} (h8 : mo_b8 B) {i : Nat} (hi : i < 6) {p : Int32} : ∀ n, mo_rg p n = none → by_w B i p n < 256 ^ n := by
  intro n
  induction n with
  | zero => intro _; exact Nat.one_pos
  | succ n ih =>
    intro h
    obtain ⟨h1, h2⟩ := rg_in h
    have a := ih h1
    have b := (bb_p h8 hi h2).1
    have c : bb B i (p + nI n) * 256 ^ n ≤ 255 * 256 ^ n := Nat.mul_le_mul_right _ (by omega)
    rw [by_w, Nat.pow_succ]
    omega
theorem by_nb {B : Nat → Nat → Int32} (h8 : mo_b8 B) {i : Nat} (hi : i < 6) {p : Int32} : ∀ n, n ≤ 4 → mo_rg p n = none → mo_nb (B 13) i p n = nI (by_w B i p n) := by
  intro n
  induction n with
  | zero => intro _ _; rfl
  | succ n ih =>
    intro h4 h
    obtain ⟨h1, h2⟩ := rg_in h
    have b := bb_p h8 hi h2
    rw [mo_nb, ih (by omega) h1, b.2, by_or32 (by omega) (by_lt h8 hi n h1) b.1, by_w]
theorem p_2 (p : Int32) (k : Nat) : p + 2 + nI k = p + nI (k + 2) := by
  rw [Int32.add_assoc]
  congr 1
  rw [show (2 : Int32) = nI 2 from rfl, nI_add, Nat.add_comm]
theorem rg_2 {p : Int32} (h : mo_rg p 2 = none) : ∀ n, mo_rg p (n + 2) = mo_rg (p + 2) n := by
  intro n
  induction n with
  | zero => exact h
  | succ n ih => rw [show mo_rg p (n + 1 + 2) = (match mo_rg p (n + 2) with | some q => some q | none => if p + nI (n + 2) < 0 ∨ 255 < p + nI (n + 2) then some (p + nI (n + 2)) else none) from rfl, ih, mo_rg, p_2]; cases mo_rg (p + 2) n <;> rfl
theorem rg_4 (p : Int32) : ri_h p = mo_rg p 4 := by
  rw [ri_h]
  cases h : mo_rg p 2 with
  | some q => exact (rg_st h 4 (by omega)).symm
  | none => exact (rg_2 h 2).symm
theorem by_4 {B : Nat → Nat → Int32} (h8 : mo_b8 B) {i : Nat} (hi : i < 6) {p : Int32} (h : mo_rg p 4 = none) : by_w B i p 4 % 65536 = by_w B i p 2 ∧ by_w B i p 4 / 65536 = by_w B i (p + 2) 2 ∧ by_w B i p 2 < 65536 ∧ by_w B i (p + 2) 2 < 65536 := by
  have h2 : mo_rg p 2 = none := mo_rg_le 2 h
  have a := by_lt h8 hi 2 h2
  have b := by_lt h8 hi 2 ((rg_2 h2 2).symm.trans h)
  have e : by_w B i p 4 = by_w B i p 2 + by_w B i (p + 2) 2 * 65536 := by
    have e1 : by_w B i p 4 = by_w B i p 2 + bb B i (p + nI 2) * 256 ^ 2 + bb B i (p + nI 3) * 256 ^ 3 := rfl
    have e2 : by_w B i (p + 2) 2 = 0 + bb B i (p + 2 + nI 0) * 256 ^ 0 + bb B i (p + 2 + nI 1) * 256 ^ 1 := rfl
    have f0 : p + 2 + nI 0 = p + nI 2 := p_2 p 0
    have f1 : p + 2 + nI 1 = p + nI 3 := p_2 p 1
    rw [e1, e2, f0, f1]
    omega
  have a2 : by_w B i p 2 < 65536 := a
  have b2 : by_w B i (p + 2) 2 < 65536 := b
  rw [e]
  exact ⟨by omega, by omega, a2, b2⟩
theorem lN_t {b : Nat} (h : b < 2 ^ 63) : (lN b).toInt = (b : Int) := Int64.toInt_ofNat_of_lt h
theorem l_b1 {b : Nat} (h : b < 256) : (1 : Int64) < lN b ↔ (1 : Int32) < nI b := by
  rw [Int64.lt_iff_toInt_lt, Int32.lt_iff_toInt_lt, lN_t (by omega), nI_toInt (by omega)]
  exact Iff.rfl
theorem l_bn {b : Nat} {x : Int32} (h : b < 256) : lN b < x.toInt64 ↔ nI b < x := by
  rw [Int64.lt_iff_toInt_lt, Int32.lt_iff_toInt_lt, lN_t (by omega), nI_toInt (by omega), Int32.toInt_toInt64]
theorem l_c (c : Nat) {m : Nat} (hc : c < 2 ^ 62) (hm : m < 2 ^ 62) : lN c < lN m ↔ c < m := by
  rw [Int64.lt_iff_toInt_lt, lN_t (by omega), lN_t (by omega)]
  omega
theorem lt_5 {m : Nat} (hm : m < 4294967296) : (nI m < 0 ∨ 1114111 < nI m ∨ (55295 < nI m ∧ nI m < 57344)) ↔ (1114111 < m ∨ (55295 < m ∧ m < 57344)) := by
  by_cases h : m < 2147483648
  · have e0 : ¬ nI m < 0 := nI_pos h
    have e1 : (1114111 : Int32) < nI m ↔ 1114111 < m := nI_ltI (a := 1114111) (by decide) h
    have e2 : (55295 : Int32) < nI m ↔ 55295 < m := nI_ltI (a := 55295) (by decide) h
    have e3 : nI m < (57344 : Int32) ↔ m < 57344 := nI_ltI (b := 57344) h (by decide)
    rw [e1, e2, e3]
    exact ⟨fun z => z.elim (fun q => absurd q e0) id, Or.inr⟩
  · have e0 : nI m < 0 := by
      rw [Int32.lt_iff_toInt_lt]
      show (Int32.ofNat m).toInt < 0
      have hz : Int32.size = 4294967296 := rfl
      rw [Int32.toInt_ofNat', Int.bmod_def, hz]
      split <;> omega
    exact ⟨fun _ => Or.inl (by omega), fun _ => Or.inl e0⟩
/-- how long a group is, by the class's word and by the reference's -/
theorem hb_mr (b : Int32) : hb_len b = if 0 ≤ tx_mr b then tx_mr b + 1 else -1 := by
  unfold hb_len tx_mr
  by_cases h1 : 128 ≤ b
  · rw [if_pos h1, if_pos h1]
    by_cases h2 : b < 194
    · have z1 : ¬ (¬ b < 194 ∧ ¬ 223 < b) := fun z => z.1 h2
      have z2 : ¬ (¬ b < 224 ∧ ¬ 239 < b) := fun z => z.1 (Int32.lt_of_lt_of_le h2 (by decide))
      have z3 : ¬ (¬ b < 240 ∧ ¬ 244 < b) := fun z => z.1 (Int32.lt_of_lt_of_le h2 (by decide))
      rw [if_pos (Or.inl h2), if_neg z1, if_neg z2, if_neg z3]
      rfl
    · by_cases h3 : b ≤ 244
      · rw [if_neg (fun z => z.elim h2 (fun q => q h3))]
        by_cases h4 : 224 ≤ b
        · have z1 : ¬ (¬ b < 194 ∧ ¬ 223 < b) := fun z => z.2 (Int32.lt_of_lt_of_le (by decide) h4)
          rw [if_pos h4, if_neg z1]
          by_cases h5 : 240 ≤ b
          · have z2 : ¬ (¬ b < 224 ∧ ¬ 239 < b) := fun z => z.2 (Int32.lt_of_lt_of_le (by decide) h5)
            rw [if_pos h5, if_neg z2, if_pos (show ¬ b < 240 ∧ ¬ 244 < b from ⟨Int32.not_lt.mpr h5, Int32.not_lt.mpr h3⟩)]
            rfl
          · have z2 : ¬ b < 224 ∧ ¬ 239 < b := ⟨Int32.not_lt.mpr h4, fun z => h5 (by
              rw [Int32.le_iff_toInt_le]
              rw [Int32.lt_iff_toInt_lt] at z
              have x1 : (239 : Int32).toInt = 239 := rfl
              have x2 : (240 : Int32).toInt = 240 := rfl
              omega)⟩
            rw [if_neg h5, if_pos z2]
            rfl
        · have z1 : ¬ b < 194 ∧ ¬ 223 < b := ⟨h2, fun z => h4 (by
            rw [Int32.le_iff_toInt_le]
            rw [Int32.lt_iff_toInt_lt] at z
            have x1 : (223 : Int32).toInt = 223 := rfl
            have x2 : (224 : Int32).toInt = 224 := rfl
            omega)⟩
          rw [if_neg h4, if_pos z1]
          rfl
      · have h3' : 244 < b := Int32.not_le.mp h3
        have z1 : ¬ (¬ b < 194 ∧ ¬ 223 < b) := fun z => z.2 (Int32.lt_trans (by decide) h3')
        have z2 : ¬ (¬ b < 224 ∧ ¬ 239 < b) := fun z => z.2 (Int32.lt_trans (by decide) h3')
        have z3 : ¬ (¬ b < 240 ∧ ¬ 244 < b) := fun z => z.2 h3'
        rw [if_pos (Or.inr h3), if_neg z1, if_neg z2, if_neg z3]
        rfl
  · rw [if_neg h1, if_neg h1]
    rfl
theorem tx_mr_v (b : Int32) : tx_mr b = -1 ∨ ∃ m, m ≤ 3 ∧ tx_mr b = nI m := by
  unfold tx_mr
  split
  · split
    · exact Or.inr ⟨1, by decide, rfl⟩
    split
    · exact Or.inr ⟨2, by decide, rfl⟩
    split
    · exact Or.inr ⟨3, by decide, rfl⟩
    · exact Or.inl rfl
  · exact Or.inr ⟨0, by decide, rfl⟩
theorem hb_lo (b : Int32) (m : Nat) (h : m ≤ 3) : hb_bd b (nI (m + 1)) 224 160 240 144 128 = tx_lo b m := by
  unfold hb_bd tx_lo
  by_cases e : m = 0
  · subst e
    rw [if_pos rfl]
    by_cases c : b = 224
    · rw [if_pos ⟨rfl, c⟩, if_pos c]
    · rw [if_neg (fun z => c z.2), if_neg c]
      by_cases d : b = 240
      · rw [if_pos ⟨rfl, d⟩, if_pos d]
      · rw [if_neg (fun z => d z.2), if_neg d]
  · have z : ¬ nI (m + 1) = 1 := fun z => e (by have := n_eq (m + 1) 1 z; omega)
    rw [if_neg e, if_neg (fun q => z q.1), if_neg (fun q => z q.1)]
theorem hb_hi (b : Int32) (m : Nat) (h : m ≤ 3) : hb_bd b (nI (m + 1)) 237 159 244 143 191 = tx_hi b m := by
  unfold hb_bd tx_hi
  by_cases e : m = 0
  · subst e
    rw [if_pos rfl]
    by_cases c : b = 237
    · rw [if_pos ⟨rfl, c⟩, if_pos c]
    · rw [if_neg (fun z => c z.2), if_neg c]
      by_cases d : b = 244
      · rw [if_pos ⟨rfl, d⟩, if_pos d]
      · rw [if_neg (fun z => d z.2), if_neg d]
  · have z : ¬ nI (m + 1) = 1 := fun z => e (by have := n_eq (m + 1) 1 z; omega)
    rw [if_neg e, if_neg (fun q => z q.1), if_neg (fun q => z q.1)]
theorem tx_lo0 (b : Int32) (m : Nat) : (0 : Int32) < tx_lo b m := by
  unfold tx_lo
  split
  · split
    · decide
    split <;> decide
  · decide
theorem tx_st {f : Nat → Int32} {ii fr mn k : Nat} {r : Int32 × Int32} {a : Nat} (h : tx_c f ii fr mn k a = some r) : ∀ b, a ≤ b → tx_c f ii fr mn k b = some r := by
  intro b
  induction b with
  | zero => intro hb; obtain rfl : a = 0 := by omega
            exact h
  | succ b ih =>
    intro hb
    by_cases e : a = b + 1
    · rw [← e]; exact h
    · rw [tx_c, ih (by omega)]
/-- what a reader stands on: sender i -/
def rd_w (K : List Nat) (am N : Nat → Nat) (S : gS) (i : Nat) : Prop := (va_nd K = true ∧ ∀ k, 10 ≤ k → k ≤ 15 → k ∈ K) ∧ (N 11 = 200 ∧ N 12 = 200 ∧ N 13 = 200) ∧ (S.1 15 0 = .ref (am (200 + 20 * i)) ∧ S.1 15 1 = .ref (am 10) ∧ S.1 15 2 = .ref (am 14)) ∧ (S.1 10 0 = .ref (am 11) ∧ S.1 10 1 = .ref (am 12) ∧ S.1 10 2 = .ref (am 13)) ∧ in_ok K am N S i ∧ i < 6
/-- the bytes of an instance -/
def me_R (S : gS) (B : Nat → Nat → Int32) (i : Nat) : Prop := ∀ a, a < 256 → S.2.1 (201 + 20 * i) a = B 13 (256 * i + a)
/-- what reading leaves as it was -/
def rkp (S S' : gS) : Prop := (∀ k j, ¬ (k = 15 ∧ j = 3) → ¬ (k = 10 ∧ j = 3) → k ≠ 14 → ¬ (gk k = 4 ∧ (j = 2 ∨ j = 3)) → S'.1 k j = S.1 k j) ∧ (∀ k, k ≠ 11 → k ≠ 13 → S'.2.1 k = S.2.1 k) ∧ S'.2.2.1 = S.2.2.1 ∧ ∀ k, k ≠ 12 → S'.2.2.2 k = S.2.2.2 k
theorem rkp.rf (S : gS) : rkp S S := ⟨fun _ _ _ _ _ _ => rfl, fun _ _ _ => rfl, rfl, fun _ _ => rfl⟩
theorem rkp.tr {S S' S'' : gS} (a : rkp S S') (b : rkp S' S'') : rkp S S'' := ⟨fun k j h1 h2 h3 h4 => (b.1 k j h1 h2 h3 h4).trans (a.1 k j h1 h2 h3 h4), fun k h1 h2 => (b.2.1 k h1 h2).trans (a.2.1 k h1 h2), b.2.2.1.trans a.2.2.1, fun k h => (b.2.2.2 k h).trans (a.2.2.2 k h)⟩
theorem rkp.g {S S' : gS} {k j : Nat} {v : Value} (a : rkp S S') (h : (k = 15 ∧ j = 3) ∨ (k = 10 ∧ j = 3) ∨ k = 14 ∨ (gk k = 4 ∧ (j = 2 ∨ j = 3))) : rkp S (gsG S' k j v) := ⟨fun k' j' h1 h2 h3 h4 => by
  rw [gsG_nj]
  · exact a.1 k' j' h1 h2 h3 h4
  · by_cases e : k' = k
    · subst e
      refine Or.inr (fun z => ?_)
      subst z
      rcases h with h | h | h | h
      · exact h1 h
      · exact h2 h
      · exact h3 h
      · exact h4 h
    · exact Or.inl e, a.2.1, a.2.2.1, a.2.2.2⟩
theorem rkp.a {S S' : gS} {k j : Nat} {v : Int32} (a : rkp S S') (h : k = 11 ∨ k = 13) : rkp S (gsA S' k j v) := ⟨a.1, fun k' h1 h2 => by
  show up2 S'.2.1 k j v k' = S.2.1 k'
  rw [up2_ne _ _ (by omega)]
  exact a.2.1 k' h1 h2, a.2.2.1, a.2.2.2⟩
theorem rkp.l {S S' : gS} {j : Nat} {v : Int64} (a : rkp S S') : rkp S (gsL S' 12 j v) := ⟨a.1, a.2.1, a.2.2.1, fun k' h => by
  show up2 S'.2.2.2 12 j v k' = S.2.2.2 k'
  rw [up2_ne _ _ h]
  exact a.2.2.2 k' h⟩
theorem rkp.sp {S S' : gS} {c p : Int32} (a : rkp S S') : rkp S (sp_S S' c p) := (a.g (Or.inr (Or.inr (Or.inl rfl)))).g (Or.inr (Or.inr (Or.inl rfl)))
theorem rkp.by {S S' : gS} {v : Value} (a : rkp S S') : rkp S (gsG S' 15 3 v) := a.g (Or.inl ⟨rfl, rfl⟩)
theorem in_ok.rk {K : List Nat} {am N : Nat → Nat} {S S' : gS} {i : Nat} (h : in_ok K am N S i) (hi : i < 6) (a : rkp S S') : in_ok K am N S' i := by
  obtain ⟨h1, h2, h3, h4, h5, h6, h7, h8⟩ := h
  refine ⟨h1, h2, h3, ?_, ?_, h6, h7, ?_⟩
  · rw [a.1 _ 0 (by omega) (by omega) (by omega) (fun z => by omega)]; exact h4
  · rw [a.1 _ 1 (by omega) (by omega) (by omega) (fun z => by omega)]; exact h5
  · rw [a.2.2.1]; exact h8
theorem rd_w.rk {K : List Nat} {am N : Nat → Nat} {S S' : gS} {i : Nat} (h : rd_w K am N S i) (a : rkp S S') : rd_w K am N S' i := by
  obtain ⟨h1, h2, ⟨a0, a1, a2⟩, ⟨b0, b1, b2⟩, h5, h6⟩ := h
  have g15 : ¬ gk 15 = 4 := by decide
  have g10 : ¬ gk 10 = 4 := by decide
  refine ⟨h1, h2, ⟨?_, ?_, ?_⟩, ⟨?_, ?_, ?_⟩, h5.rk h6 a, h6⟩
  · rw [a.1 15 0 (by omega) (by omega) (by omega) (fun z => g15 z.1)]; exact a0
  · rw [a.1 15 1 (by omega) (by omega) (by omega) (fun z => g15 z.1)]; exact a1
  · rw [a.1 15 2 (by omega) (by omega) (by omega) (fun z => g15 z.1)]; exact a2
  · rw [a.1 10 0 (by omega) (by omega) (by omega) (fun z => g10 z.1)]; exact b0
  · rw [a.1 10 1 (by omega) (by omega) (by omega) (fun z => g10 z.1)]; exact b1
  · rw [a.1 10 2 (by omega) (by omega) (by omega) (fun z => g10 z.1)]; exact b2
theorem me_R.rk {S S' : gS} {B : Nat → Nat → Int32} {i : Nat} (h : me_R S B i) (a : rkp S S') : me_R S' B i := fun b hb => by
  rw [a.2.1 _ (by omega) (by omega)]; exact h b hb
theorem TyR.rk {K : List Nat} {am N : Nat → Nat} {S S' : gS} {B : Nat → Nat → Int32} {NT : Nat} {ct : Nat → Nat} {pt : Nat → Nat → Nat} (h : TyR K am N S B NT ct pt) (a : rkp S S') : TyR K am N S' B NT ct pt := by
  refine h.tr (fun k j h1 h2 => a.1 k j (by omega) (by omega) (by omega) (fun z => ?_)) (fun k j h1 h2 => by rw [a.2.1 k (by omega) (by omega)]) a.2.2.1 (fun _ _ _ => rfl)
  have g : ∀ n, n < 100 → ¬ gk (100 + n) = 4 := by decide +kernel
  exact g (k - 100) (by omega) (by rw [show 100 + (k - 100) = k by omega]; exact z.1)
