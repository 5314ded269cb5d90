/-! the writing of the items, one after the other -/
theorem mo_fh_ok (u : Nat → Int32) (b : Nat) : ∀ n, n ≤ 16 → mo_fh u b n = 0 ∨ (1 ≤ mo_fh u b n ∧ mo_fh u b n ≤ 16 ∧ u (b + mo_fh u b n) = 0) := by
  intro n
  induction n with
  | zero => intro _; exact Or.inl rfl
  | succ n ih =>
    intro hn
    rw [mo_fh]
    split
    · rename_i h; exact Or.inr ⟨by omega, by omega, h⟩
    · exact ih (by omega)
theorem mo_iu_up (u : Nat → Int32) (b h : Nat) (h1 : 1 ≤ h) (h2 : u (b + h) = 0) : ∀ n, (n < h → mo_iu (upd u (b + h) 1) b n = mo_iu u b n) ∧ (h ≤ n → mo_iu (upd u (b + h) 1) b n = mo_iu u b n + 1) := by
  intro n
  induction n with
  | zero => exact ⟨fun _ => rfl, fun z => absurd z (by omega)⟩
  | succ n ih =>
    refine ⟨fun z => ?_, fun z => ?_⟩
    · rw [mo_iu, mo_iu, upd_ne (by omega), ih.1 (by omega)]
    · by_cases e : h = n + 1
      · rw [mo_iu, mo_iu, ← e, upd_eq, if_neg (by decide), if_pos h2, ih.1 (by omega)]
      · rw [mo_iu, mo_iu, upd_ne (by omega), ih.2 (by omega)]
        split <;> rfl
theorem mo_iu_le (u : Nat → Int32) (b : Nat) : ∀ n, mo_iu u b n ≤ n := by
  intro n
  induction n with
  | zero => exact Nat.le_refl _
  | succ n ih => rw [mo_iu]; split <;> omega
theorem mo_iu_lt (u : Nat → Int32) (b h : Nat) (h1 : 1 ≤ h) (h2 : u (b + h) = 0) (h3 : h ≤ 16) : mo_iu u b 16 < 16 := by
  have a := (mo_iu_up u b h h1 h2 16).2 h3
  have c := mo_iu_le (upd u (b + h) 1) b 16
  omega
/-- what writing leaves as it is -/
def wr_sm (B B' : Nat → Nat → Int32) : Prop := ∀ f, f ≠ 13 → f ≠ 14 → f ≠ 16 → f ≠ 17 → f ≠ 18 → f ≠ 19 → f ≠ 50 → f ≠ 51 → f ≠ 53 → B' f = B f
theorem wr_sm.rf (B : Nat → Nat → Int32) : wr_sm B B := fun _ _ _ _ _ _ _ _ _ _ => rfl
theorem wr_sm.tr {B B' B'' : Nat → Nat → Int32} (a : wr_sm B B') (b : wr_sm B' B'') : wr_sm B B'' := fun f h1 h2 h3 h4 h5 h6 h7 h8 h9 => (b f h1 h2 h3 h4 h5 h6 h7 h8 h9).trans (a f h1 h2 h3 h4 h5 h6 h7 h8 h9)
theorem wr_sm.up {B : Nat → Nat → Int32} {k : Nat} {g : Nat → Int32} (h : k = 13 ∨ k = 14 ∨ k = 16 ∨ k = 17 ∨ k = 18 ∨ k = 19 ∨ k = 50 ∨ k = 51 ∨ k = 53) : wr_sm B (va_up B k g) := by
  intro f h1 h2 h3 h4 h5 h6 h7 h8 h9
  exact va_up_ne B g (by omega)
def wr_at (Bs : Nat → Nat → Int32) (NT : Nat) (sz : Nat → Nat) (B : Nat → Nat → Int32) (a : Nat) : Prop := ∃ ua to, ua < NT ∧ Bs 44 a = nI ua ∧ B 50 a = nI to ∧ to + sz ua ≤ 256 ∧ (Bs 2 ua = 8 → ∃ rm mn pu, mn ≤ 65535 ∧ pu < NT ∧ B 51 a = nI rm ∧ Bs 49 a = nI mn ∧ Bs 8 (6 * ua) = nI pu ∧ rm + mn * sz pu ≤ 256)
def wr_iv (Bs : Nat → Nat → Int32) (NT : Nat) (sz : Nat → Nat) (J : Nat) (F : Nat → Int32) (B : Nat → Nat → Int32) (k : Nat) : Prop :=
  wr_sm Bs B ∧ (∃ hp, hp ≤ 256 ∧ B 14 J = nI hp) ∧ (∃ fn, F 52 = nI fn ∧ fn ≤ mo_iu (B 16) (17 * J) 16) ∧ (∃ t0 u0, u0 < NT ∧ B 50 0 = nI t0 ∧ Bs 44 0 = nI u0 ∧ t0 + sz u0 ≤ 256) ∧ ∀ a, a < k → wr_at Bs NT sz B a
/-- where item k goes -/
theorem wr_to {Bs : Nat → Nat → Int32} {NT : Nat} {sz : Nat → Nat} {J : Nat} {F : Nat → Int32} {B : Nat → Nat → Int32} {k : Nat} (hN : NT ≤ 32) (hk : k < 200) (h : wr_iv Bs NT sz J F B k) {uk : Nat} (hu : uk < NT) (hB : Bs 44 k = nI uk) (hi : it_a Bs NT sz k uk) :
    ∃ to, wi_to B k = nI to ∧ to + sz uk ≤ 256 ∧ (¬ B 46 k < 0 → vp_in (B 46 k) 200 ∧ vp_in (B 44 (B 46 k).toNatClampNeg) 32) := by
  obtain ⟨hs, -, -, ⟨t0, u0, i1, i2, i3, i4⟩, hat⟩ := h
  have e2 : B 2 = Bs 2 := hs 2 (by decide) (by decide) (by decide) (by decide) (by decide) (by decide) (by decide) (by decide) (by decide)
  have e44 : B 44 = Bs 44 := hs 44 (by decide) (by decide) (by decide) (by decide) (by decide) (by decide) (by decide) (by decide) (by decide)
  have e46 : B 46 = Bs 46 := hs 46 (by decide) (by decide) (by decide) (by decide) (by decide) (by decide) (by decide) (by decide) (by decide)
  have e47 : B 47 = Bs 47 := hs 47 (by decide) (by decide) (by decide) (by decide) (by decide) (by decide) (by decide) (by decide) (by decide)
  rw [wi_to, e46, e44, e47, e2]
  rcases hi with ⟨h1, h2⟩ | ⟨a, inn, a1, a2, a3, ua, a4, a5, a6⟩
  · subst h1
    obtain rfl : u0 = uk := n_eq u0 uk (i3.symm.trans hB)
    rw [h2, if_pos (by decide)]
    exact ⟨t0, i2, i4, fun z => absurd (show (-1 : Int32) < 0 by decide) z⟩
  · rw [a2, if_neg (nI_pos (show a < 2 ^ 31 by omega)), nI_clamp (show a < 2 ^ 31 by omega), a4, nI_clamp (show ua < 2 ^ 31 by omega), a3]
    have hv : ¬ nI a < 0 → vp_in (nI a) 200 ∧ vp_in (nI ua) 32 := fun _ => ⟨vp_in_nI (by omega) (by decide), vp_in_nI (by omega) (by decide)⟩
    obtain ⟨ub, tb, b1, b2, b3, b4, b5⟩ := hat a a1
    obtain rfl : ub = ua := n_eq ub ua (b2.symm.trans a4)
    rcases a6 with ⟨c1, mn, c2, c3, c4, c5⟩ | ⟨c1, c2⟩
    · obtain ⟨rm, mm, pu, d1, d2, d3, d4, d5, d6⟩ := b5 c1
      obtain rfl : mm = mn := n_eq mm mn (d4.symm.trans c3)
      obtain rfl : pu = uk := n_eq pu uk (d5.symm.trans c4)
      rw [if_pos c1, d3, nI_add]
      exact ⟨rm + inn, rfl, by omega, hv⟩
    · rw [if_neg c1, b3, nI_add]
      exact ⟨tb + inn, rfl, by omega, hv⟩
/-- one item more is written -/
theorem wr_nx {Bs : Nat → Nat → Int32} {NT : Nat} {sz : Nat → Nat} {J : Nat} {F F1 : Nat → Int32} {B B1 : Nat → Nat → Int32} {k : Nat} (hN : NT ≤ 32) (h : wr_iv Bs NT sz J F B k) {uk to : Nat} (hu : uk < NT) (hB : Bs 44 k = nI uk) (hto : to + sz uk ≤ 256)
    (s1 : wr_sm B B1) (s2 : B1 50 = upd (B 50) k (nI to)) (s3 : ∀ a, a ≠ k → B1 51 a = B 51 a) (s4 : ∃ hp, hp ≤ 256 ∧ B1 14 J = nI hp) (s5 : ∃ fn, F1 52 = nI fn ∧ fn ≤ mo_iu (B1 16) (17 * J) 16) (s6 : Bs 2 uk = 8 → ∃ rm mn pu, mn ≤ 65535 ∧ pu < NT ∧ B1 51 k = nI rm ∧ Bs 49 k = nI mn ∧ Bs 8 (6 * uk) = nI pu ∧ rm + mn * sz pu ≤ 256) : wr_iv Bs NT sz J F1 B1 (k + 1) := by
  obtain ⟨hs, -, -, ⟨t0, u0, i1, i2, i3, i4⟩, hat⟩ := h
  have hk1 : wr_at Bs NT sz B1 k := ⟨uk, to, hu, hB, by rw [s2, upd_eq], hto, s6⟩
  have hk2 : ∀ a, a < k → wr_at Bs NT sz B1 a := by
    intro a ha
    obtain ⟨ub, tb, b1, b2, b3, b4, b5⟩ := hat a ha
    refine ⟨ub, tb, b1, b2, by rw [s2, upd_ne (by omega)]; exact b3, b4, fun z => ?_⟩
    obtain ⟨rm, mm, pu, d1, d2, d3, d4, d5, d6⟩ := b5 z
    exact ⟨rm, mm, pu, d1, d2, (s3 a (by omega)).trans d3, d4, d5, d6⟩
  refine ⟨hs.tr s1, s4, s5, ?_, fun a ha => ?_⟩
  · by_cases e : k = 0
    · subst e
      exact ⟨to, uk, hu, by rw [s2, upd_eq], hB, hto⟩
    · exact ⟨t0, u0, i1, by rw [s2, upd_ne (by omega)]; exact i2, i3, i4⟩
  · by_cases e : a = k
    · subst e; exact hk1
    · exact hk2 a (by omega)
