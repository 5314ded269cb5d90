/-! the items that reading makes, and where they go -/
theorem mo_rg_in {p : Int32} : ∀ (k : Nat), k ≤ 100 → mo_rg p (k + 1) = none → ∃ pp, p = nI pp ∧ pp + (k + 1) ≤ 256 := by
  intro k
  induction k with
  | zero =>
    intro _ h
    rw [mo_rg, show mo_rg p 0 = none from rfl] at h
    have g : ¬ (p + nI 0 < 0 ∨ 255 < p + nI 0) := fun z => by rw [if_pos z] at h; cases h
    rw [n_a0] at g
    obtain ⟨j, hj, e⟩ := n_r255 (fun z => g (Or.inl z)) (Int32.not_lt.mp (fun z => g (Or.inr z)))
    exact ⟨j, e, by omega⟩
  | succ k ih =>
    intro hk h
    have h1 : mo_rg p (k + 1) = none := mo_rg_le 1 h
    obtain ⟨pp, e, hp⟩ := ih (by omega) h1
    rw [mo_rg, h1] at h
    have g : ¬ (p + nI (k + 1) < 0 ∨ 255 < p + nI (k + 1)) := fun z => by rw [if_pos z] at h; cases h
    rw [e, nI_add, n_out (by omega)] at g
    exact ⟨pp, e, by omega⟩
theorem tx_c_in {f : Nat → Int32} {ii fr mn k : Nat} : ∀ (m : Nat), k < mn → tx_c f ii fr mn k m = none → k + m < mn ∧ fr + k + m < 256 := by
  intro m hk
  induction m with
  | zero =>
    intro h
    rw [tx_c] at h
    split at h
    · cases h
    · exact ⟨by omega, by omega⟩
  | succ m ih =>
    intro h
    rw [tx_c] at h
    cases hx : tx_c f ii fr mn k m with
    | some r => rw [hx] at h; cases h
    | none =>
      rw [hx] at h
      dsimp only at h
      obtain ⟨a, b⟩ := ih hx
      split at h
      · cases h
      split at h
      · cases h
      exact ⟨by omega, by omega⟩
theorem tx_r_in {f : Nat → Int32} {ii fr mn : Nat} : ∀ (n k : Nat), mn < k + n → k ≤ mn → tx_r f ii fr mn n k = none → mn = k ∨ fr + mn ≤ 256 := by
  intro n
  induction n with
  | zero => intro k h1 h2; omega
  | succ n ih =>
    intro k h1 h2 h
    rw [tx_r] at h
    split at h
    · exact Or.inl (by omega)
    · rename_i hk
      cases hx : tx_g f ii fr mn k with
      | some r => rw [hx] at h; cases h
      | none =>
        rw [hx] at h
        dsimp only at h
        have hx2 := hx
        unfold tx_g at hx2
        obtain ⟨a, b⟩ := tx_c_in _ (by omega) hx2
        rcases ih _ (by omega) (by omega) h with e | e
        · exact Or.inr (by omega)
        · exact Or.inr e
/-- sizes, alignments and offsets of the types -/
def ty_sz (B : Nat → Nat → Int32) (NT : Nat) (ct : Nat → Nat) (pt : Nat → Nat → Nat) (sz al : Nat → Nat) : Prop := (∀ u, u < NT → B 4 u = nI (sz u) ∧ sz u ≤ 96 ∧ B 5 u = nI (al u) ∧ 1 ≤ al u ∧ al u ≤ 8 ∧ (B 2 u = 6 ∨ B 2 u = 8 → sz u = 4) ∧ (¬ B 2 u ≤ 10 → sz u = 1) ∧ (B 2 u = 10 → 1 ≤ sz u) ∧ ((B 2 u = 9 ∨ B 2 u = 10) → ∀ k, k < ct u → ∃ off, B 9 (6 * u + k) = nI off ∧ off + sz (pt u k) ≤ sz u)) ∧ ∀ t u, t < NT → u < NT → B 2 t = B 2 u → ¬ B 2 t = 9 → ¬ B 2 t = 10 → sz t = sz u
/-- the first n items are kept -/
def kp (n : Nat) (B B' : Nat → Nat → Int32) : Prop := ∀ f, 44 ≤ f → f ≤ 49 → ∀ k, k < n → B' f k = B f k
theorem kp.rf (n : Nat) (B : Nat → Nat → Int32) : kp n B B := fun _ _ _ _ _ => rfl
theorem kp.tr {n m : Nat} {B B' B'' : Nat → Nat → Int32} (a : kp n B B') (b : kp m B' B'') (h : n ≤ m) : kp n B B'' := fun f h1 h2 k hk => (b f h1 h2 k (by omega)).trans (a f h1 h2 k hk)
theorem kp.le {n m : Nat} {B B' : Nat → Nat → Int32} (a : kp m B B') (h : n ≤ m) : kp n B B' := fun f h1 h2 k hk => a f h1 h2 k (by omega)
/-- a value of type u stands inn bytes within item a -/
def ps_ok (B : Nat → Nat → Int32) (NT : Nat) (sz : Nat → Nat) (a u inn : Nat) : Prop := ∃ ua, B 44 a = nI ua ∧ ua < NT ∧ ((B 2 ua = 8 ∧ ∃ mn, mn ≤ 65535 ∧ B 49 a = nI mn ∧ B 8 (6 * ua) = nI u ∧ inn + sz u ≤ mn * sz u) ∨ (¬ B 2 ua = 8 ∧ inn + sz u ≤ sz ua))
def it_c (B : Nat → Nat → Int32) (sz : Nat → Nat) (k uk : Nat) : Prop := (B 2 uk = 6 ∨ B 2 uk = 8 → ∃ mn, mn ≤ 65535 ∧ B 49 k = nI mn) ∧ (B 2 uk = 6 → ∃ fr mn, fr ≤ 65535 ∧ mn ≤ 65535 ∧ B 48 k = nI fr ∧ B 49 k = nI mn ∧ (mn = 0 ∨ fr + mn ≤ 256)) ∧ (¬ B 2 uk ≤ 10 → vp_in (B 48 k) 102) ∧ (¬ B 2 uk = 6 → ¬ B 2 uk = 8 → B 2 uk ≤ 10 → ¬ B 2 uk = 9 → ∃ pp, B 45 k = nI pp ∧ pp + (if B 2 uk = 10 then 1 else sz uk) ≤ 256)
def it_a (B : Nat → Nat → Int32) (NT : Nat) (sz : Nat → Nat) (k uk : Nat) : Prop := (k = 0 ∧ B 46 k = -1) ∨ ∃ a inn, a < k ∧ B 46 k = nI a ∧ B 47 k = nI inn ∧ ps_ok B NT sz a uk inn
def it_ku (B : Nat → Nat → Int32) (NT : Nat) (sz : Nat → Nat) (k uk : Nat) : Prop := uk < NT ∧ B 44 k = nI uk ∧ it_a B NT sz k uk ∧ it_c B sz k uk
def it_k (B : Nat → Nat → Int32) (NT : Nat) (sz : Nat → Nat) (k : Nat) : Prop := ∃ uk, it_ku B NT sz k uk
theorem ps_ok.tr {B B' : Nat → Nat → Int32} {NT : Nat} {sz : Nat → Nat} {a u inn n : Nat} (h : ps_ok B NT sz a u inn) (e2 : B' 2 = B 2) (e8 : B' 8 = B 8) (hk : kp n B B') (ha : a < n) : ps_ok B' NT sz a u inn := by
  obtain ⟨ua, h1, h2, h3⟩ := h
  refine ⟨ua, (hk 44 (by omega) (by omega) a ha).trans h1, h2, ?_⟩
  rw [e2, e8, hk 49 (by omega) (by omega) a ha]
  exact h3
theorem it_k.tr {B B' : Nat → Nat → Int32} {NT : Nat} {sz : Nat → Nat} {k n : Nat} (h : it_k B NT sz k) (e2 : B' 2 = B 2) (e8 : B' 8 = B 8) (hk : kp n B B') (ha : k < n) : it_k B' NT sz k := by
  obtain ⟨uk, h1, h2, h3, h4⟩ := h
  refine ⟨uk, h1, (hk 44 (by omega) (by omega) k ha).trans h2, ?_, ?_⟩
  · rcases h3 with ⟨h3, h5⟩ | ⟨a, inn, b1, b2, b3, b4⟩
    · exact Or.inl ⟨h3, (hk 46 (by omega) (by omega) k ha).trans h5⟩
    · exact Or.inr ⟨a, inn, b1, (hk 46 (by omega) (by omega) k ha).trans b2, (hk 47 (by omega) (by omega) k ha).trans b3, b4.tr e2 e8 hk (by omega)⟩
  · unfold it_c
    rw [e2, hk 45 (by omega) (by omega) k ha, hk 48 (by omega) (by omega) k ha, hk 49 (by omega) (by omega) k ha]
    exact h4
theorem it_mk {B Bq : Nat → Nat → Int32} {NT nn uu : Nat} {sz : Nat → Nat} {p ab inn : Int32} (e44 : Bq 44 = upd (B 44) nn (nI uu)) (e45 : Bq 45 = upd (B 45) nn p) (e46 : Bq 46 = upd (B 46) nn ab) (e47 : Bq 47 = upd (B 47) nn inn) (e48 : ∀ k, k ≠ nn → Bq 48 k = B 48 k) (e49 : ∀ k, k ≠ nn → Bq 49 k = B 49 k) (e2 : Bq 2 = B 2) (e8 : Bq 8 = B 8) (hu : uu < NT)
    (hpos : (nn = 0 ∧ ab = -1) ∨ ∃ a i, a < nn ∧ ab = nI a ∧ inn = nI i ∧ ps_ok B NT sz a uu i) (hc : it_c Bq sz nn uu) : it_ku Bq NT sz nn uu ∧ kp nn B Bq := by
  have hk : kp nn B Bq := by
    intro f h1 h2 k hk
    have hne : k ≠ nn := by omega
    obtain rfl | rfl | rfl | rfl | rfl | rfl : f = 44 ∨ f = 45 ∨ f = 46 ∨ f = 47 ∨ f = 48 ∨ f = 49 := by omega
    · rw [e44, upd_ne hne]
    · rw [e45, upd_ne hne]
    · rw [e46, upd_ne hne]
    · rw [e47, upd_ne hne]
    · exact e48 k hne
    · exact e49 k hne
  refine ⟨⟨hu, by rw [e44, upd_eq], ?_, hc⟩, hk⟩
  rcases hpos with ⟨h1, h2⟩ | ⟨a, i, h1, h2, h3, h4⟩
  · exact Or.inl ⟨h1, by rw [e46, upd_eq, h2]⟩
  · exact Or.inr ⟨a, i, h1, by rw [e46, upd_eq, h2], by rw [e47, upd_eq, h3], h4.tr e2 e8 hk h1⟩
theorem it_cn {B : Nat → Nat → Int32} {sz : Nat → Nat} {k uk : Nat} (h : B 2 uk = 9) : it_c B sz k uk := by
  refine ⟨?_, ?_, ?_, ?_⟩
  · rintro (z | z) <;> exact absurd (h.symm.trans z) (by decide)
  · intro z; exact absurd (h.symm.trans z) (by decide)
  · intro z; exact absurd (show B 2 uk ≤ 10 by rw [h]; decide) z
  · intro _ _ _ z; exact absurd h z
