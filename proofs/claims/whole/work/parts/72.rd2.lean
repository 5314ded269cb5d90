/-! reading: handles and items, pure rows -/
theorem HA.s {am hd : Nat → Nat} {S S' : gS} {B : Nat → Nat → Int32} {fr : Nat → Bool} {ln : Nat → Int32} {ni : Nat} (h : HA am hd S B fr ln ni) (hn : ni ≤ 6) (e : ∀ k j, gk k = 4 → S'.1 k j = S.1 k j) : HA am hd S' B fr ln ni := by
  intro i h9 hi hh
  have g := fun j => e (203 + 20 * i + h9) j ((gk_in i (by omega)).2.2.2 h9 hh)
  unfold HR
  rw [g, g, g, g, g]
  exact h i h9 hi hh
/-- tables that agree on what handles are -/
theorem HA.b {am hd : Nat → Nat} {S : gS} {B B' : Nat → Nat → Int32} {fr : Nat → Bool} {ni : Nat} (h : HA am hd S B fr (lnB B) ni) (e : ∀ f, f = 16 ∨ f = 17 ∨ f = 18 ∨ f = 19 ∨ f = 20 ∨ f = 21 ∨ f = 23 → B' f = B f) : HA am hd S B' fr (lnB B') ni :=
  h.z (fun x => by rw [e 16 (by omega)]) (fun f hf => e f (by omega))
theorem ln_p {B : Nat → Nat → Int32} {x p : Int32} : ∀ n, mo_ln B x (p + 1) n = mo_ln B x p n + 1 := by
  intro n
  induction n with
  | zero => rfl
  | succ n ih =>
    rw [mo_ln, mo_ln, ih]
    split <;> rfl
/-- one more is lent for the passing -/
theorem HA.bo {am hd : Nat → Nat} {S : gS} {B B' : Nat → Nat → Int32} {ni i h : Nat} (H : HA am hd S B fr0 (lnB B) ni) (hi : i < ni) (hh : h < 16) (e21 : B' 21 = upd (B 21) (17 * i + h + 1) (B 21 (17 * i + h + 1) + 1)) (e : ∀ f, f = 16 ∨ f = 17 ∨ f = 18 ∨ f = 19 ∨ f = 20 ∨ f = 23 → B' f = B f) : HA am hd (gsG S (203 + 20 * i + h) 2 (.int (lnB B (17 * i + h + 1) + 1))) B' fr0 (lnB B') ni := by
  intro j g hj hg
  obtain ⟨a, b, c⟩ := H j g hj hg
  have e1 : hof B' fr0 (17 * j + g + 1) = hof B fr0 (17 * j + g + 1) := by
    unfold hof
    rw [e 16 (by omega), e 18 (by omega), e 20 (by omega)]
  have eL : ∀ x p, mo_ln B' x p 102 = mo_ln B x p 102 := fun x p => mo_ln_c (e 16 (by omega)) (e 18 (by omega)) (e 19 (by omega)) x p 102
  refine ⟨?_, ?_, ?_⟩
  · rw [gsG_nj (Or.inr (by decide)), e1]; exact a
  · by_cases q : 17 * j + g + 1 = 17 * i + h + 1
    · obtain ⟨rfl, rfl⟩ := hx_inj hg hh q
      have e9 : lnB B' (17 * j + g + 1) = lnB B (17 * j + g + 1) + 1 := by rw [lnB, lnB, eL, e21, upd_eq, ln_p]
      rw [e9]
      exact gsG_eq _ _ _ _
    · rw [gsG_nj (Or.inl (fun z => q (by have := hk_inj hg hh z; omega))), b, lnB, lnB, eL, e21, upd_ne q]
  · rw [gsG_nj (Or.inr (by decide)), gsG_nj (Or.inr (by decide)), gsG_nj (Or.inr (by decide)), e 16 (by omega), e 17 (by omega), e 18 (by omega), e 19 (by omega), e 20 (by omega), e 23 (by omega)]
    exact c
/-- one is taken -/
theorem HA.tk {am hd : Nat → Nat} {S : gS} {B B' : Nat → Nat → Int32} {ni i h : Nat} (H : HA am hd S B fr0 (lnB B) ni) (hi : i < ni) (hh : h < 16) (hu : ¬ B 16 (17 * i + h + 1) = 0) (how : ¬ B 18 (17 * i + h + 1) = 0) (e20 : B' 20 = upd (B 20) (17 * i + h + 1) 1) (e : ∀ f, f = 16 ∨ f = 17 ∨ f = 18 ∨ f = 19 ∨ f = 21 ∨ f = 23 → B' f = B f) : HA am hd (gsG S (203 + 20 * i + h) 3 (.ref (hd 3))) B' fr0 (lnB B') ni := by
  intro j g hj hg
  obtain ⟨a, b, c⟩ := H j g hj hg
  have eL : ∀ x p, mo_ln B' x p 102 = mo_ln B x p 102 := fun x p => mo_ln_c (e 16 (by omega)) (e 18 (by omega)) (e 19 (by omega)) x p 102
  refine ⟨?_, ?_, ?_⟩
  · by_cases q : 17 * j + g + 1 = 17 * i + h + 1
    · obtain ⟨rfl, rfl⟩ := hx_inj hg hh q
      rw [hof, e 16 (by omega), if_neg hu, e20, upd_eq, if_pos (by decide)]
      exact gsG_eq _ _ _ _
    · rw [gsG_nj (Or.inl (fun z => q (by have := hk_inj hg hh z; omega))), a]
      unfold hof
      rw [e 16 (by omega), e 18 (by omega), e20, upd_ne q]
  · rw [gsG_nj (Or.inr (by decide)), b, lnB, lnB, eL, e 21 (by omega)]
  · rw [gsG_nj (Or.inr (by decide)), gsG_nj (Or.inr (by decide)), gsG_nj (Or.inr (by decide)), e 16 (by omega), e 17 (by omega), e 18 (by omega), e 19 (by omega), e 23 (by omega)]
    intro z
    obtain ⟨c1, c2, c3⟩ := c z
    refine ⟨c1, c2, fun y => ?_⟩
    obtain ⟨i', h', x1, x2, x3, x4, x5⟩ := c3 y
    refine ⟨i', h', x1, x2, x3, x4, ?_⟩
    rw [e20, upd_ne (fun w => how (by rw [← w]; exact y))]
    exact x5
theorem hof1 {B : Nat → Nat → Int32} {x : Nat} (h : hof B fr0 x = 1) : ¬ B 16 x = 0 ∧ B 20 x = 0 ∧ ¬ B 18 x = 0 := by
  unfold hof fr0 at h
  split at h
  · cases h
  split at h
  · cases h
  split at h
  · cases h
  · rename_i a b c; exact ⟨a, Decidable.of_not_not b, c⟩
theorem hof12 {B : Nat → Nat → Int32} {x : Nat} : (hof B fr0 x = 1 ∨ hof B fr0 x = 2) ↔ (¬ B 16 x = 0 ∧ B 20 x = 0) := by
  constructor
  · rintro (h | h)
    · exact ⟨(hof1 h).1, (hof1 h).2.1⟩
    · refine ⟨(hof2 h).1, ?_⟩
      unfold hof at h
      rw [if_neg (hof2 h).1] at h
      split at h
      · cases h
      · rename_i b; exact Decidable.of_not_not b
  · rintro ⟨a, b⟩
    unfold hof fr0
    rw [if_neg a, if_neg (fun z => z b)]
    split
    · exact Or.inr rfl
    · exact Or.inl rfl
/-- what is known of an item: the class's against the reference's -/
def IR1 (S : gS) (B : Nat → Nat → Int32) (i k uk : Nat) : Prop :=
  S.2.1 11 k = B 45 k ∧ (B 2 uk = 6 ∨ B 2 uk = 8 → ∃ fr mn, fr ≤ 65535 ∧ mn ≤ 65535 ∧ B 48 k = nI fr ∧ B 49 k = nI mn ∧ S.2.2.2 12 k = lN fr ∧ S.2.1 13 k = nI mn) ∧
  (B 2 uk = 10 → ∃ pp b, pp < 256 ∧ B 45 k = nI pp ∧ b < 256 ∧ B 13 (256 * i + pp) = nI b ∧ S.2.2.2 12 k = lN b) ∧
  (¬ B 2 uk ≤ 10 → ∃ b, 1 ≤ b ∧ b ≤ 16 ∧ B 48 k = nI (17 * i + b) ∧ S.2.2.2 12 k = lN b ∧ ¬ B 16 (17 * i + b) = 0) ∧
  (¬ B 2 uk = 6 → ¬ B 2 uk = 8 → ¬ B 2 uk = 9 → ¬ B 2 uk = 10 → B 2 uk ≤ 10 → mo_rg (B 45 k) (B 4 uk).toNatClampNeg = none ∧ S.2.2.2 12 k = lN (by_w B i (B 45 k) (B 4 uk).toNatClampNeg))
def IR (S : gS) (B : Nat → Nat → Int32) (i NT n : Nat) : Prop := ∀ k, k < n → ∃ uk, uk < NT ∧ B 44 k = nI uk ∧ IR1 S B i k uk
theorem by_w_c {B B' : Nat → Nat → Int32} (h : B' 13 = B 13) (i : Nat) (p : Int32) : ∀ n, by_w B' i p n = by_w B i p n := by
  intro n
  induction n with
  | zero => rfl
  | succ n ih => rw [by_w, by_w, ih, bb, bb, h]
theorem IR1.tr {S S' : gS} {B B' : Nat → Nat → Int32} {i k uk : Nat} (h : IR1 S B i k uk) (e2 : B' 2 = B 2) (e4 : B' 4 = B 4) (e13 : B' 13 = B 13) (e16 : B' 16 = B 16) (eB : B' 45 k = B 45 k ∧ B' 48 k = B 48 k ∧ B' 49 k = B 49 k) (eS : S'.2.1 11 k = S.2.1 11 k ∧ S'.2.1 13 k = S.2.1 13 k ∧ S'.2.2.2 12 k = S.2.2.2 12 k) : IR1 S' B' i k uk := by
  unfold IR1
  rw [e2, e4, e13, e16, eB.1, eB.2.1, eB.2.2, eS.1, eS.2.1, eS.2.2, by_w_c e13]
  exact h
theorem IR.tr {S S' : gS} {B B' : Nat → Nat → Int32} {i NT n : Nat} (h : IR S B i NT n) (e2 : B' 2 = B 2) (e4 : B' 4 = B 4) (e13 : B' 13 = B 13) (e16 : B' 16 = B 16) (eB : kp n B B') (eS : ∀ k, k < n → S'.2.1 11 k = S.2.1 11 k ∧ S'.2.1 13 k = S.2.1 13 k ∧ S'.2.2.2 12 k = S.2.2.2 12 k) : IR S' B' i NT n := fun k hk => by
  obtain ⟨uk, h1, h2, h3⟩ := h k hk
  exact ⟨uk, h1, (eB 44 (by omega) (by omega) k hk).trans h2, h3.tr e2 e4 e13 e16 ⟨eB 45 (by omega) (by omega) k hk, eB 48 (by omega) (by omega) k hk, eB 49 (by omega) (by omega) k hk⟩ (eS k hk)⟩
/-- the state of a reading: tables B0 at its beginning, B now, n items -/
def RS (K : List Nat) (am N hd : Nat → Nat) (S : gS) (B0 B : Nat → Nat → Int32) (i NT ni : Nat) (ct : Nat → Nat) (pt : Nat → Nat → Nat) (n : Nat) : Prop :=
  rd_w K am N S i ∧ TyR K am N S B0 NT ct pt ∧ me_R S B0 i ∧ mo_sc B0 B ∧ S.1 10 3 = .int (nI n) ∧ n ≤ 200 ∧ IR S B i NT n ∧ HA am hd S B fr0 (lnB B) ni
/-- the types and bytes at the beginning of a reading are as they should be -/
def RC (B0 : Nat → Nat → Int32) (i NT ni : Nat) (ct dp : Nat → Nat) (pt : Nat → Nat → Nat) (sz : Nat → Nat) (R : Nat → Nat → Prop) : Prop :=
  (i < ni ∧ ni ≤ 6) ∧ mo_b8 B0 ∧ ty_wf B0 NT ct dp pt ∧ ty_rd B0 NT ct ∧ ty_ft B0 ct pt R ∧ (∀ t u, R t u → t < NT ∧ u < NT) ∧ (∀ t, t < NT → B0 4 t = nI (sz t) ∧ sz t ≤ 96 ∧ ((B0 2 t = 0 ∨ B0 2 t = 7) → sz t = 1) ∧ ∃ a, (a = 1 ∨ a = 2 ∨ a = 4 ∨ a = 8) ∧ B0 5 t = nI a) ∧ (∀ t u, t < NT → u < NT → B0 2 t = B0 2 u → ¬ B0 2 t = 9 → ¬ B0 2 t = 10 → sz t = sz u)
/-- a part of a reading that went well: n items before, n1 behind it -/
def st_k (S : gS) (B : Nat → Nat → Int32) (n : Nat) (S1 : gS) (B1 : Nat → Nat → Int32) (n1 : Nat) : Prop := rkp S S1 ∧ S1.1 14 = S.1 14 ∧ kp n B B1 ∧ n ≤ n1 ∧ ∀ k, k < n → S1.2.1 11 k = S.2.1 11 k ∧ S1.2.1 13 k = S.2.1 13 k ∧ S1.2.2.2 12 k = S.2.2.2 12 k
theorem st_k.rf (S : gS) (B : Nat → Nat → Int32) (n : Nat) : st_k S B n S B n := ⟨rkp.rf S, rfl, kp.rf n B, Nat.le_refl n, fun _ _ => ⟨rfl, rfl, rfl⟩⟩
theorem st_k.tr {S S1 S2 : gS} {B B1 B2 : Nat → Nat → Int32} {n n1 n2 : Nat} (a : st_k S B n S1 B1 n1) (b : st_k S1 B1 n1 S2 B2 n2) : st_k S B n S2 B2 n2 :=
  ⟨a.1.tr b.1, b.2.1.trans a.2.1, a.2.2.1.tr b.2.2.1 a.2.2.2.1, Nat.le_trans a.2.2.2.1 b.2.2.2.1, fun k hk => by
    obtain ⟨x1, x2, x3⟩ := a.2.2.2.2 k hk
    obtain ⟨y1, y2, y3⟩ := b.2.2.2.2 k (Nat.lt_of_lt_of_le hk a.2.2.2.1)
    exact ⟨y1.trans x1, y2.trans x2, y3.trans x3⟩⟩
/-- what a step of reading comes to -/
def RQ (K : List Nat) (am N hd : Nat → Nat) (ks : Nat → ClassId) (S : gS) (B0 B : Nat → Nat → Int32) (i NT ni : Nat) (ct : Nat → Nat) (pt : Nat → Nat → Nat) (n : Nat) (x : rd_R) (r : Option Value) (w : va_W) : Prop :=
  ∃ y S1, w = gw K am ks N S1 ∧ r = some (.int y) ∧ ((∃ e, x = .inl e ∧ y = 0 ∧ rkp S S1 ∧ S1.1 14 0 = .int e.1 ∧ S1.1 14 1 = .int e.2 ∧ ∃ B1, mo_sc B0 B1 ∧ HA am hd S1 B1 fr0 (lnB B1) ni) ∨ (∃ q, x = .inr q ∧ y = 1 ∧ st_k S B n S1 q.2 q.1 ∧ RS K am N hd S1 B0 q.2 i NT ni ct pt q.1))
theorem RQ.tr {K : List Nat} {am N hd : Nat → Nat} {ks : Nat → ClassId} {S S1 : gS} {B0 B B1 : Nat → Nat → Int32} {i NT ni : Nat} {ct : Nat → Nat} {pt : Nat → Nat → Nat} {n n1 : Nat} {x : rd_R} {r : Option Value} {w : va_W} (a : st_k S B n S1 B1 n1) (h : RQ K am N hd ks S1 B0 B1 i NT ni ct pt n1 x r w) : RQ K am N hd ks S B0 B i NT ni ct pt n x r w := by
  obtain ⟨y, S2, e1, e2, h | h⟩ := h
  · obtain ⟨e, f1, f2, f3, f4⟩ := h
    exact ⟨y, S2, e1, e2, Or.inl ⟨e, f1, f2, a.1.tr f3, f4⟩⟩
  · obtain ⟨q, f1, f2, f3, f4⟩ := h
    exact ⟨y, S2, e1, e2, Or.inr ⟨q, f1, f2, a.tr f3, f4⟩⟩
/-- parts one after the other -/
def rs_ch (g : Nat → Nat → (Nat → Nat → Int32) → rd_R) : Nat → Nat → Nat → (Nat → Nat → Int32) → rd_R
  | 0, _, n, B => .inr (n, B)
  | r + 1, j, n, B => match g j n B with
    | .inl x => .inl x
    | .inr q => rs_ch g r (j + 1) q.1 q.2
theorem rd_s_ch {g : ri_E → Nat → (Nat → Nat → Int32) → rd_R} {e : Nat → ri_E} {h : Nat → Nat → (Nat → Nat → Int32) → rd_R} {m : Nat} (he : ∀ j, j < m → g (e (m - 1 - j)) = h j) : ∀ (r j n : Nat) (B : Nat → Nat → Int32), r + j = m → rd_s g e r n B = rs_ch h r j n B := by
  intro r
  induction r with
  | zero => intro j n B _; rfl
  | succ r ih =>
    intro j n B hj
    have e1 := he j (by omega)
    rw [show m - 1 - j = r by omega] at e1
    rw [rd_s, rs_ch, e1]
    cases h j n B with
    | inl x => rfl
    | inr q => exact ih (j + 1) q.1 q.2 (by omega)
theorem rd_m_1 {f : Int32 → Int32 → Nat → (Nat → Nat → Int32) → rd_R} {a b : Int32} {p inn : Int32} {n : Nat} {B : Nat → Nat → Int32} : rd_m f a b 1 p inn n B = f p inn n B := by
  rw [rd_m]
  cases f p inn n B with
  | inl x => rfl
  | inr q => rfl
theorem sp_0 (S : gS) (c p : Int32) : (sp_S S c p).1 14 0 = .int c := (gsG_nj (Or.inr (by decide))).trans (gsG_eq _ _ _ _)
theorem sp_1 (S : gS) (c p : Int32) : (sp_S S c p).1 14 1 = .int p := gsG_eq _ _ _ _
theorem sp_k {S : gS} {c p : Int32} {k j : Nat} (h : k ≠ 14) : (sp_S S c p).1 k j = S.1 k j := (gsG_nj (Or.inl h)).trans (gsG_nj (Or.inl h))
theorem HA.sp {am hd : Nat → Nat} {S : gS} {B : Nat → Nat → Int32} {fr : Nat → Bool} {ln : Nat → Int32} {ni : Nat} {c p : Int32} (h : HA am hd S B fr ln ni) (hn : ni ≤ 6) : HA am hd (sp_S S c p) B fr ln ni :=
  h.s hn (fun k j hg => sp_k (fun z => by rw [z] at hg; exact absurd hg (by decide)))
theorem HA.by {am hd : Nat → Nat} {S : gS} {B : Nat → Nat → Int32} {fr : Nat → Bool} {ln : Nat → Int32} {ni : Nat} {v : Value} (h : HA am hd S B fr ln ni) (hn : ni ≤ 6) : HA am hd (gsG S 15 3 v) B fr ln ni :=
  h.s hn (fun k j hg => gsG_nj (Or.inl (fun z => by rw [z] at hg; exact absurd hg (by decide))))
def rh_48 (B : Nat → Nat → Int32) (it x : Nat) : Nat → Nat → Int32 := va_up B 48 (upd (B 48) it (nI x))
theorem rh_eq {B : Nat → Nat → Int32} {i t it b : Nat} {p : Int32} (hp : ¬ (p < 0 ∨ 255 < p)) (hX : B 13 (256 * nI i + p).toNatClampNeg = nI b) (hb : b < 256) : mo_rh B i t p it = if ¬ (1 ≤ b ∧ b ≤ 16 ∧ ¬ B 16 (17 * i + b) = 0 ∧ B 20 (17 * i + b) = 0) then (some (6, p), B) else
    if ¬ B 23 (B 17 (17 * i + b)).toNatClampNeg = B 3 t then (some (7, p), rh_48 B it (17 * i + b)) else
    if B 2 t = 12 then (none, va_up (rh_48 B it (17 * i + b)) 21 (upd (B 21) (17 * i + b) (B 21 (17 * i + b) + 1))) else
    if B 18 (17 * i + b) = 0 then (some (8, p), rh_48 B it (17 * i + b)) else
    if ¬ lnB B (17 * i + b) ≤ 0 then (some (9, p), rh_48 B it (17 * i + b)) else (none, va_up (rh_48 B it (17 * i + b)) 20 (upd (B 20) (17 * i + b) 1)) := by
  have ec : (¬ nI b < 1 ∧ ¬ 16 < nI b ∧ ¬ B 16 (17 * i + b) = 0 ∧ B 20 (17 * i + b) = 0) ↔ (1 ≤ b ∧ b ≤ 16 ∧ ¬ B 16 (17 * i + b) = 0 ∧ B 20 (17 * i + b) = 0) := by
    have e1 : ¬ nI b < 1 ↔ 1 ≤ b := ⟨fun z => n_nlt b 1 z, fun z => nI_nlt (b := 1) z (by omega)⟩
    have e2 : ¬ 16 < nI b ↔ b ≤ 16 := ⟨fun z => n_nlt 16 b z, fun z => nI_nlt (a := 16) z (by omega)⟩
    rw [e1, e2]
  rw [mo_rh, if_neg hp, hX, nI_clamp (by omega)]
  by_cases c : 1 ≤ b ∧ b ≤ 16 ∧ ¬ B 16 (17 * i + b) = 0 ∧ B 20 (17 * i + b) = 0
  · rw [if_neg (fun z => z (ec.mpr c)), if_neg (show ¬ ¬ (1 ≤ b ∧ b ≤ 16 ∧ ¬ B 16 (17 * i + b) = 0 ∧ B 20 (17 * i + b) = 0) from fun z => z c)]
    rfl
  · rw [if_pos (fun z => c (ec.mp z)), if_pos c]
theorem rh_ne {B : Nat → Nat → Int32} {it x f : Nat} (h : f ≠ 48) : rh_48 B it x f = B f := va_up_ne B _ h
theorem rh_ne2 {B : Nat → Nat → Int32} {it x f g : Nat} {v : Nat → Int32} (h : f ≠ 48) (h2 : f ≠ g) : va_up (rh_48 B it x) g v f = B f := (va_up_ne _ _ h2).trans (rh_ne h)
/-- what reading a handle comes to -/
def RH (K : List Nat) (am N hd : Nat → Nat) (ks : Nat → ClassId) (S : gS) (B : Nat → Nat → Int32) (i ni it : Nat) (x : Option (Int32 × Int32) × (Nat → Nat → Int32)) (r : Option Value) (w : va_W) : Prop :=
  ∃ y S1, w = gw K am ks N S1 ∧ r = some (.int y) ∧ rkp S S1 ∧ ((∃ e, x.1 = some e ∧ y = 0 ∧ S1.1 14 0 = .int e.1 ∧ S1.1 14 1 = .int e.2 ∧ HA am hd S1 B fr0 (lnB B) ni) ∨ (x.1 = none ∧ y = 1 ∧ (S1.1 14 = S.1 14 ∧ S1.1 10 = S.1 10 ∧ S1.2.1 = S.2.1) ∧ (∃ b, 1 ≤ b ∧ b ≤ 16 ∧ x.2 48 it = nI (17 * i + b) ∧ S1.2.2.2 12 it = lN b ∧ ¬ B 16 (17 * i + b) = 0) ∧ (∀ k, k ≠ it → S1.2.2.2 12 k = S.2.2.2 12 k) ∧ HA am hd S1 x.2 fr0 (lnB x.2) ni))
