/-! the class's state against the reference's tables: types, handles -/
theorem gk_ty : ∀ t, t < 32 → gk (100 + 3 * t) = 1 ∧ gk (101 + 3 * t) = 21 ∧ gk (102 + 3 * t) = 20 := by decide +kernel
theorem gk_fu : ∀ f, f < 12 → gk (400 + f) = 2 := by decide +kernel
/-- the cells of a type -/
def RTy (am N : Nat → Nat) (S : gS) (B : Nat → Nat → Int32) (ct : Nat → Nat) (pt : Nat → Nat → Nat) (t : Nat) : Prop :=
  S.2.2.1 1 t = some (am (100 + 3 * t)) ∧ (S.1 (100 + 3 * t) 0 = .int (B 2 t) ∧ S.1 (100 + 3 * t) 1 = .int (B 3 t) ∧ S.1 (100 + 3 * t) 2 = .int (B 7 t) ∧ S.1 (100 + 3 * t) 3 = .ref (am (101 + 3 * t)) ∧ S.1 (100 + 3 * t) 4 = .ref (am (102 + 3 * t)) ∧ S.1 (100 + 3 * t) 5 = .int (B 6 t) ∧ S.1 (100 + 3 * t) 7 = .int (B 5 t) ∧ S.1 (100 + 3 * t) 8 = .int (B 4 t)) ∧ (N (101 + 3 * t) = ct t ∧ N (102 + 3 * t) = ct t) ∧ ∀ k, k < ct t → S.2.2.1 (101 + 3 * t) k = some (am (100 + 3 * pt t k)) ∧ S.2.1 (102 + 3 * t) k = B 9 (6 * t + k)
def TyR (K : List Nat) (am N : Nat → Nat) (S : gS) (B : Nat → Nat → Int32) (NT : Nat) (ct : Nat → Nat) (pt : Nat → Nat → Nat) : Prop := NT ≤ 32 ∧ ∀ t, t < NT → (100 + 3 * t ∈ K ∧ 101 + 3 * t ∈ K ∧ 102 + 3 * t ∈ K) ∧ RTy am N S B ct pt t ∧ ∃ kd, kd ≤ 12 ∧ B 2 t = nI kd
section TYR
variable {K : List Nat} {am N : Nat → Nat} {S S' : gS} {B B' : Nat → Nat → Int32} {NT : Nat} {ct : Nat → Nat} {pt : Nat → Nat → Nat} {t k : Nat}
theorem TyR.k0 (h : TyR K am N S B NT ct pt) (ht : t < NT) : 100 + 3 * t ∈ K := (h.2 t ht).1.1
theorem TyR.k1 (h : TyR K am N S B NT ct pt) (ht : t < NT) : 101 + 3 * t ∈ K := (h.2 t ht).1.2.1
theorem TyR.k2 (h : TyR K am N S B NT ct pt) (ht : t < NT) : 102 + 3 * t ∈ K := (h.2 t ht).1.2.2
theorem TyR.g0 (h : TyR K am N S B NT ct pt) (ht : t < NT) : gk (100 + 3 * t) = 1 := (gk_ty t (Nat.lt_of_lt_of_le ht h.1)).1
theorem TyR.g1 (h : TyR K am N S B NT ct pt) (ht : t < NT) : gk (101 + 3 * t) = 21 := (gk_ty t (Nat.lt_of_lt_of_le ht h.1)).2.1
theorem TyR.g2 (h : TyR K am N S B NT ct pt) (ht : t < NT) : gk (102 + 3 * t) = 20 := (gk_ty t (Nat.lt_of_lt_of_le ht h.1)).2.2
theorem TyR.q (h : TyR K am N S B NT ct pt) (ht : t < NT) : S.2.2.1 1 t = some (am (100 + 3 * t)) := (h.2 t ht).2.1.1
theorem TyR.kd (h : TyR K am N S B NT ct pt) (ht : t < NT) : ∃ kd, kd ≤ 12 ∧ B 2 t = nI kd := (h.2 t ht).2.2
theorem TyR.f0 (h : TyR K am N S B NT ct pt) (ht : t < NT) : S.1 (100 + 3 * t) 0 = .int (B 2 t) := (h.2 t ht).2.1.2.1.1
theorem TyR.f1 (h : TyR K am N S B NT ct pt) (ht : t < NT) : S.1 (100 + 3 * t) 1 = .int (B 3 t) := (h.2 t ht).2.1.2.1.2.1
theorem TyR.f2 (h : TyR K am N S B NT ct pt) (ht : t < NT) : S.1 (100 + 3 * t) 2 = .int (B 7 t) := (h.2 t ht).2.1.2.1.2.2.1
theorem TyR.f3 (h : TyR K am N S B NT ct pt) (ht : t < NT) : S.1 (100 + 3 * t) 3 = .ref (am (101 + 3 * t)) := (h.2 t ht).2.1.2.1.2.2.2.1
theorem TyR.f4 (h : TyR K am N S B NT ct pt) (ht : t < NT) : S.1 (100 + 3 * t) 4 = .ref (am (102 + 3 * t)) := (h.2 t ht).2.1.2.1.2.2.2.2.1
theorem TyR.f5 (h : TyR K am N S B NT ct pt) (ht : t < NT) : S.1 (100 + 3 * t) 5 = .int (B 6 t) := (h.2 t ht).2.1.2.1.2.2.2.2.2.1
theorem TyR.f7 (h : TyR K am N S B NT ct pt) (ht : t < NT) : S.1 (100 + 3 * t) 7 = .int (B 5 t) := (h.2 t ht).2.1.2.1.2.2.2.2.2.2.1
theorem TyR.f8 (h : TyR K am N S B NT ct pt) (ht : t < NT) : S.1 (100 + 3 * t) 8 = .int (B 4 t) := (h.2 t ht).2.1.2.1.2.2.2.2.2.2.2
theorem TyR.n1 (h : TyR K am N S B NT ct pt) (ht : t < NT) : N (101 + 3 * t) = ct t := (h.2 t ht).2.1.2.2.1.1
theorem TyR.n2 (h : TyR K am N S B NT ct pt) (ht : t < NT) : N (102 + 3 * t) = ct t := (h.2 t ht).2.1.2.2.1.2
theorem TyR.pq (h : TyR K am N S B NT ct pt) (ht : t < NT) (hk : k < ct t) : S.2.2.1 (101 + 3 * t) k = some (am (100 + 3 * pt t k)) := ((h.2 t ht).2.1.2.2.2 k hk).1
theorem TyR.oq (h : TyR K am N S B NT ct pt) (ht : t < NT) (hk : k < ct t) : S.2.1 (102 + 3 * t) k = B 9 (6 * t + k) := ((h.2 t ht).2.1.2.2.2 k hk).2
theorem TyR.tr (h : TyR K am N S B NT ct pt) (hG : ∀ k j, 100 ≤ k → k < 200 → S'.1 k j = S.1 k j) (hA : ∀ k j, 100 ≤ k → k < 200 → S'.2.1 k j = S.2.1 k j) (hQ : S'.2.2.1 = S.2.2.1) (hB : ∀ f, 2 ≤ f → f ≤ 9 → B' f = B f) : TyR K am N S' B' NT ct pt := by
  refine ⟨h.1, fun t ht => ?_⟩
  have h32 := h.1
  obtain ⟨h1, ⟨h2, ⟨a0, a1, a2, a3, a4, a5, a7, a8⟩, h4, h5⟩, h6⟩ := h.2 t ht
  have g : ∀ j, S'.1 (100 + 3 * t) j = S.1 (100 + 3 * t) j := fun j => hG _ j (by omega) (by omega)
  refine ⟨h1, ⟨by rw [hQ]; exact h2, ⟨?_, ?_, ?_, ?_, ?_, ?_, ?_, ?_⟩, h4, fun k hk => ?_⟩, ?_⟩
  · rw [g, hB 2 (by omega) (by omega)]; exact a0
  · rw [g, hB 3 (by omega) (by omega)]; exact a1
  · rw [g, hB 7 (by omega) (by omega)]; exact a2
  · rw [g]; exact a3
  · rw [g]; exact a4
  · rw [g, hB 6 (by omega) (by omega)]; exact a5
  · rw [g, hB 5 (by omega) (by omega)]; exact a7
  · rw [g, hB 4 (by omega) (by omega)]; exact a8
  · rw [hQ, hA _ k (by omega) (by omega), hB 9 (by omega) (by omega)]; exact h5 k hk
  · rw [hB 2 (by omega) (by omega)]; exact h6
end TYR
theorem al_d {x : Int32} {kd : Nat} (hx : x = nI kd) (h : kd ≤ 12) (e : x.toInt < (7 : Int) ∨ ((7 : Int) + 6 - 1) < x.toInt) : x < 11 ∧ ¬ x = 7 ∧ ¬ x = 9 ∧ ¬ x = 10 := by
  subst hx
  rw [nI_toInt (by omega)] at e
  have h7 : kd < 7 := by omega
  exact ⟨nI_lt (b := 11) (by omega) (by decide), fun z => absurd (n_eq kd 7 z) (by omega), fun z => absurd (n_eq kd 9 z) (by omega), fun z => absurd (n_eq kd 10 z) (by omega)⟩
/-- what numberBehind answers -/
def nb_y (r : Nat ⊕ Nat) : Int32 := match r with
  | .inl m => -(nI m)
  | .inr m => nI (m + 1)
theorem nb_neg {m : Nat} (h : 1 ≤ m) (hm : m < 1000000) : -(nI m) < 0 := by
  rw [Int32.lt_iff_toInt_lt, Int32.toInt_neg, nI_toInt (by omega), Int.bmod_eq_of_le (by omega) (by omega)]
  show -(m : Int) < 0
  omega
theorem nb_nn (m : Nat) : -(-(nI m)) = nI m := Int32.neg_neg
/-! handles -/
def hof (B : Nat → Nat → Int32) (fr : Nat → Bool) (x : Nat) : Nat := if B 16 x = 0 then 0 else if ¬ B 20 x = 0 then 3 else if B 18 x = 0 then 2 else if fr x then 4 else 1
def fr0 (_ : Nat) : Bool := false
theorem hof_lt (B : Nat → Nat → Int32) (fr : Nat → Bool) (x : Nat) : hof B fr x < 5 := by
  unfold hof
  split
  · decide
  split
  · decide
  split
  · decide
  split <;> decide
def lnB (B : Nat → Nat → Int32) (x : Nat) : Int32 := mo_ln B (nI x) (B 21 x) 102
def HR (am hd : Nat → Nat) (S : gS) (B : Nat → Nat → Int32) (fr : Nat → Bool) (ln : Nat → Int32) (ni i h : Nat) : Prop :=
  S.1 (203 + 20 * i + h) 3 = .ref (hd (hof B fr (17 * i + h + 1))) ∧ S.1 (203 + 20 * i + h) 2 = .int (ln (17 * i + h + 1)) ∧ (¬ B 16 (17 * i + h + 1) = 0 → S.1 (203 + 20 * i + h) 0 = .int (B 17 (17 * i + h + 1)) ∧ S.1 (203 + 20 * i + h) 1 = .int (B 23 (B 17 (17 * i + h + 1)).toNatClampNeg) ∧ (B 18 (17 * i + h + 1) = 0 → ∃ i' h', i' < ni ∧ h' < 16 ∧ B 19 (17 * i + h + 1) = nI (17 * i' + h' + 1) ∧ S.1 (203 + 20 * i + h) 4 = .ref (am (203 + 20 * i' + h')) ∧ B 20 (17 * i + h + 1) = 0))
/-- all handles of all instances -/
def HA (am hd : Nat → Nat) (S : gS) (B : Nat → Nat → Int32) (fr : Nat → Bool) (ln : Nat → Int32) (ni : Nat) : Prop := ∀ i h, i < ni → h < 16 → HR am hd S B fr ln ni i h
/-- all but holdings and loans of handles is as it was -/
def hkp (S S' : gS) : Prop := (∀ k j, ¬ (gk k = 4 ∧ (j = 2 ∨ j = 3)) → S'.1 k j = S.1 k j) ∧ S'.2 = S.2
theorem hkp.rf (S : gS) : hkp S S := ⟨fun _ _ _ => rfl, rfl⟩
theorem hkp.tr {S S' S'' : gS} (a : hkp S S') (b : hkp S' S'') : hkp S S'' := ⟨fun k j h => (b.1 k j h).trans (a.1 k j h), b.2.trans a.2⟩
theorem hkp.up {S S' : gS} {k j : Nat} {v : Value} (a : hkp S S') (hk : gk k = 4) (hj : j = 2 ∨ j = 3) : hkp S (gsG S' k j v) := ⟨fun k' j' h => by
  rw [gsG_nj]
  · exact a.1 k' j' h
  · by_cases e : k' = k
    · subst e
      exact Or.inr (fun z => h ⟨hk, z ▸ hj⟩)
    · exact Or.inl e, a.2⟩
theorem in_ok.hk {K : List Nat} {am N : Nat → Nat} {S S' : gS} {i : Nat} (h : in_ok K am N S i) (a : hkp S S') : in_ok K am N S' i := by
  obtain ⟨h1, h2, h3, h4, h5, h6, h7, h8⟩ := h
  refine ⟨h1, h2, h3, ?_, ?_, h6, h7, ?_⟩
  · rw [a.1 _ 0 (fun z => by omega)]; exact h4
  · rw [a.1 _ 1 (fun z => by omega)]; exact h5
  · rw [a.2]; exact h8
theorem ln_dn {B B' : Nat → Nat → Int32} {y : Nat} (h16 : ∀ x, x ≠ y → (B' 16 x = 0 ↔ B 16 x = 0)) (hy0 : B' 16 y = 0) (hy1 : ¬ B 16 y = 0) (ho : B 18 y = 0) (e18 : B' 18 = B 18) (e19 : B' 19 = B 19) (x p : Int32) : ∀ n, mo_ln B' x p n = if y < n ∧ B 19 y = x then mo_ln B x p n - 1 else mo_ln B x p n := by
  intro n
  induction n with
  | zero => rw [if_neg (fun z => absurd z.1 (Nat.not_lt_zero y))]; rfl
  | succ n ih =>
    rw [mo_ln, mo_ln, e18, e19, ih]
    by_cases e : n = y
    · subst e
      rw [if_neg (fun z => z.1 hy0), if_neg (fun z => absurd z.1 (Nat.lt_irrefl n))]
      by_cases c : B 19 n = x
      · rw [if_pos ⟨Nat.lt_succ_self n, c⟩, if_pos ⟨hy1, ho, c⟩, Int32.add_sub_cancel]
      · rw [if_neg (fun z => c z.2), if_neg (fun z => c z.2.2)]
    · by_cases c : ¬ B 16 n = 0 ∧ B 18 n = 0 ∧ B 19 n = x
      · rw [if_pos ⟨fun z => c.1 ((h16 n e).mp z), c.2⟩, if_pos c]
        by_cases d : y < n ∧ B 19 y = x
        · rw [if_pos d, if_pos ⟨by omega, d.2⟩, Int32.sub_add_cancel, Int32.add_sub_cancel]
        · rw [if_neg d, if_neg (fun z => d ⟨by omega, z.2⟩)]
      · rw [if_neg (fun z => c ⟨fun q => z.1 ((h16 n e).mpr q), z.2⟩), if_neg c]
        by_cases d : y < n ∧ B 19 y = x
        · rw [if_pos d, if_pos ⟨by omega, d.2⟩]
        · rw [if_neg d, if_neg (fun z => d ⟨by omega, z.2⟩)]
theorem ln_z {B B' : Nat → Nat → Int32} (h16 : ∀ x, (B' 16 x = 0 ↔ B 16 x = 0)) (e18 : B' 18 = B 18) (e19 : B' 19 = B 19) (x p : Int32) : ∀ n, mo_ln B' x p n = mo_ln B x p n := by
  intro n
  induction n with
  | zero => rfl
  | succ n ih =>
    rw [mo_ln, mo_ln, e18, e19, ih]
    by_cases c : ¬ B 16 n = 0 ∧ B 18 n = 0 ∧ B 19 n = x
    · rw [if_pos ⟨fun z => c.1 ((h16 n).mp z), c.2⟩, if_pos c]
    · rw [if_neg (fun z => c ⟨fun q => z.1 ((h16 n).mpr q), z.2⟩), if_neg c]
/-- only which ones are in use counts -/
theorem HA.z {am hd : Nat → Nat} {S : gS} {B B' : Nat → Nat → Int32} {fr : Nat → Bool} {ni : Nat} (h : HA am hd S B fr (lnB B) ni) (h16 : ∀ x, (B' 16 x = 0 ↔ B 16 x = 0)) (e : ∀ f, f = 17 ∨ f = 18 ∨ f = 19 ∨ f = 20 ∨ f = 21 ∨ f = 23 → B' f = B f) : HA am hd S B' fr (lnB B') ni := by
  intro i h9 hi hh
  obtain ⟨a, b, c⟩ := h i h9 hi hh
  have e1 : hof B' fr (17 * i + h9 + 1) = hof B fr (17 * i + h9 + 1) := by
    unfold hof
    rw [e 18 (by omega), e 20 (by omega)]
    by_cases q : B 16 (17 * i + h9 + 1) = 0
    · rw [if_pos q, if_pos ((h16 _).mpr q)]
    · rw [if_neg q, if_neg (fun z => q ((h16 _).mp z))]
  refine ⟨by rw [e1]; exact a, ?_, fun q => ?_⟩
  · rw [b, lnB, lnB, ln_z h16 (e 18 (by omega)) (e 19 (by omega)), e 21 (by omega)]
  · rw [e 17 (by omega), e 18 (by omega), e 19 (by omega), e 20 (by omega), e 23 (by omega)]
    exact c (fun z => q ((h16 _).mpr z))
theorem hx_inj {i h i' h' : Nat} (a : h < 16) (b : h' < 16) (e : 17 * i + h + 1 = 17 * i' + h' + 1) : i = i' ∧ h = h' := by omega
theorem hk_inj {i h i' h' : Nat} (a : h < 16) (b : h' < 16) (e : 203 + 20 * i + h = 203 + 20 * i' + h') : i = i' ∧ h = h' := by omega
/-- a loan ends -/
theorem HA.el {am hd : Nat → Nat} {S : gS} {B B' : Nat → Nat → Int32} {ni i h i' h' : Nat} (H : HA am hd S B fr0 (lnB B) ni) (hn : ni ≤ 6) (hi : i < ni) (hh : h < 16) (hi' : i' < ni) (hh' : h' < 16) (hu : ¬ B 16 (17 * i + h + 1) = 0) (ho : B 18 (17 * i + h + 1) = 0) (hl : B 19 (17 * i + h + 1) = nI (17 * i' + h' + 1)) (h16 : ∀ x, x ≠ 17 * i + h + 1 → (B' 16 x = 0 ↔ B 16 x = 0)) (hy0 : B' 16 (17 * i + h + 1) = 0) (e : ∀ f, f = 17 ∨ f = 18 ∨ f = 19 ∨ f = 20 ∨ f = 21 ∨ f = 23 → B' f = B f) :
    HA am hd (gsG (gsG S (203 + 20 * i + h) 3 (.ref (hd 0))) (203 + 20 * i' + h') 2 (.int (lnB B (17 * i' + h' + 1) - 1))) B' fr0 (lnB B') ni := by
  intro j g hj hg
  obtain ⟨a, b, c⟩ := H j g hj hg
  have eln : ∀ x, x < 102 → lnB B' x = if 17 * i' + h' + 1 = x then lnB B x - 1 else lnB B x := fun x hx => by
    rw [lnB, lnB, ln_dn h16 hy0 hu ho (e 18 (by omega)) (e 19 (by omega)), e 21 (by omega), hl]
    by_cases q : 17 * i' + h' + 1 = x
    · rw [if_pos q, if_pos ⟨by omega, by rw [q]⟩]
    · rw [if_neg q, if_neg (fun z => q (n_eq _ _ z.2 (ha := by omega) (hb := by omega)))]
  refine ⟨?_, ?_, fun q => ?_⟩
  · rw [gsG_nj (Or.inr (by decide))]
    by_cases q : 17 * j + g + 1 = 17 * i + h + 1
    · obtain ⟨rfl, rfl⟩ := hx_inj hg hh q
      rw [hof, if_pos hy0]
      exact up2_eq _ _ _ _
    · rw [gsG_nj (Or.inl (fun z => q (by have := hk_inj hg hh z; omega))), a]
      have e1 : hof B' fr0 (17 * j + g + 1) = hof B fr0 (17 * j + g + 1) := by
        unfold hof
        rw [e 18 (by omega), e 20 (by omega)]
        by_cases w : B 16 (17 * j + g + 1) = 0
        · rw [if_pos w, if_pos ((h16 _ q).mpr w)]
        · rw [if_neg w, if_neg (fun z => w ((h16 _ q).mp z))]
      rw [e1]
  · rw [eln _ (by omega)]
    by_cases q : 17 * i' + h' + 1 = 17 * j + g + 1
    · obtain ⟨rfl, rfl⟩ := hx_inj hh' hg q
      rw [if_pos rfl]
      exact up2_eq _ _ _ _
    · rw [if_neg q, gsG_nj (Or.inl (fun z => q (by have := hk_inj hg hh' z; omega))), gsG_nj (Or.inr (by decide)), b]
  · have q1 : 17 * j + g + 1 ≠ 17 * i + h + 1 := fun z => q (by rw [z]; exact hy0)
    have q2 : ¬ B 16 (17 * j + g + 1) = 0 := fun z => q ((h16 _ q1).mpr z)
    have eG : ∀ p, p ≠ 2 → p ≠ 3 → (gsG (gsG S (203 + 20 * i + h) 3 (.ref (hd 0))) (203 + 20 * i' + h') 2 (.int (lnB B (17 * i' + h' + 1) - 1))).1 (203 + 20 * j + g) p = S.1 (203 + 20 * j + g) p := fun p p1 p2 => by
      rw [gsG_nj (Or.inr p1), gsG_nj (Or.inr p2)]
    rw [eG 0 (by decide) (by decide), eG 1 (by decide) (by decide), eG 4 (by decide) (by decide), e 17 (by omega), e 18 (by omega), e 19 (by omega), e 20 (by omega), e 23 (by omega)]
    exact c q2
/-- holdings that changed, one by one -/
theorem hh_ch_at (S : gS) (hd ho : Nat → Nat) (i o c : Nat) {h : Nat} (hS : S.1 (203 + 20 * i + h) 3 = .ref (hd (ho h))) : ∀ j, h < j → (hh_ch S hd ho i o c j).1 (203 + 20 * i + h) 3 = .ref (hd (if ho h = o then c else ho h)) := by
  intro j
  induction j with
  | zero => intro z; omega
  | succ j ih =>
    intro hj
    rw [hh_ch]
    by_cases e : h = j
    · subst e
      have h1 := hh_ch_1 S hd ho i o c (q := 203 + 20 * i + h) (p := 3) h (Or.inr (fun k hk => by omega))
      split
      · exact up2_eq _ _ _ _
      · rw [h1]; exact hS
    · have h1 := ih (by omega)
      split
      · rw [gsG_nj (Or.inl (by omega))]; exact h1
      · exact h1
theorem hh_ch_k {S : gS} {hd ho : Nat → Nat} {i o c : Nat} (hi : i < 6) : ∀ j, j ≤ 16 → hkp S (hh_ch S hd ho i o c j) := by
  intro j
  induction j with
  | zero => intro _; exact hkp.rf S
  | succ j ih =>
    intro hj
    rw [hh_ch]
    split
    · exact (ih (by omega)).up ((gk_in i hi).2.2.2 j (by omega)) (Or.inr rfl)
    · exact ih (by omega)
/-- no loans any more -/
def hh_lz (S : gS) (i : Nat) : Nat → gS
  | 0 => S
  | j + 1 => gsG (hh_lz S i j) (203 + 20 * i + j) 2 (.int 0)
theorem hh_lz_k {S : gS} {i : Nat} (hi : i < 6) : ∀ j, j ≤ 16 → hkp S (hh_lz S i j) := by
  intro j
  induction j with
  | zero => intro _; exact hkp.rf S
  | succ j ih => intro hj; exact (ih (by omega)).up ((gk_in i hi).2.2.2 j (by omega)) (Or.inl rfl)
theorem hh_lz_1 {S : gS} {i q p : Nat} : ∀ j, (p ≠ 2 ∨ ∀ h, h < j → q ≠ 203 + 20 * i + h) → (hh_lz S i j).1 q p = S.1 q p := by
  intro j
  induction j with
  | zero => intro _; rfl
  | succ j ih =>
    intro h
    rw [hh_lz, gsG_nj (h.elim Or.inr (fun z => Or.inl (z j (by omega))))]
    exact ih (h.elim Or.inl (fun z => Or.inr (fun k hk => z k (by omega))))
theorem hh_lz_at {S : gS} {i h : Nat} : ∀ j, h < j → (hh_lz S i j).1 (203 + 20 * i + h) 2 = .int 0 := by
  intro j
  induction j with
  | zero => intro z; omega
  | succ j ih =>
    intro hj
    rw [hh_lz]
    by_cases e : h = j
    · subst e; exact up2_eq _ _ _ _
    · rw [gsG_nj (Or.inl (by omega))]; exact ih (by omega)
/-- what a trap makes of a holding -/
def h_un (o : Nat) : Nat := if o = 2 ∨ o = 4 then 0 else if o = 3 then 1 else o
