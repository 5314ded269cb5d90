/-! what was read is a tree: pure rows -/
def is_c (P : Nat → Nat → Nat → Prop) : Nat → Nat → Nat → Nat → Prop
  | 0, _, a, b => a = b
  | r + 1, j, a, b => ∃ m, P j a m ∧ is_c P r (j + 1) m b
def is_t (B : Nat → Nat → Int32) (i : Nat) (ct : Nat → Nat) (pt : Nat → Nat → Nat) (sz : Nat → Nat) : Nat → Nat → Nat → Nat → Prop
  | 0, _, _, _ => False
  | d + 1, u, k, k' => B 44 k = nI u ∧ k < 200 ∧ ((B 2 u = 8 ∧ ∃ mn, mn ≤ 65535 ∧ B 49 k = nI mn ∧ is_c (fun j a b => B 46 a = nI k ∧ B 47 a = nI (j * sz (pt u 0)) ∧ is_t B i ct pt sz d (pt u 0) a b) mn 0 (k + 1) k') ∨ (B 2 u = 9 ∧ is_c (fun j a b => B 46 a = nI k ∧ B 47 a = B 9 (6 * u + j) ∧ is_t B i ct pt sz d (pt u j) a b) (ct u) 0 (k + 1) k') ∨ (B 2 u = 10 ∧ ∃ b pp, b < ct u ∧ pp < 256 ∧ B 45 k = nI pp ∧ B 13 (256 * i + pp) = nI b ∧ B 46 (k + 1) = nI k ∧ B 47 (k + 1) = B 9 (6 * u + b) ∧ is_t B i ct pt sz d (pt u b) (k + 1) k') ∨ (¬ B 2 u = 8 ∧ ¬ B 2 u = 9 ∧ ¬ B 2 u = 10 ∧ k' = k + 1))
theorem is_c_le {P : Nat → Nat → Nat → Prop} (hP : ∀ j a m, P j a m → a < m) : ∀ (r j a b : Nat), is_c P r j a b → a ≤ b := by
  intro r
  induction r with
  | zero => intro j a b h; exact Nat.le_of_eq h
  | succ r ih =>
    intro j a b h
    obtain ⟨m, h1, h2⟩ := h
    have a1 := hP j a m h1
    have a2 := ih (j + 1) m b h2
    omega
theorem is_c_map {P Q : Nat → Nat → Nat → Prop} (hP : ∀ j a m, P j a m → a < m) {b : Nat} (h : ∀ j a m, P j a m → m ≤ b → Q j a m) : ∀ (r j a : Nat), is_c P r j a b → is_c Q r j a b := by
  intro r
  induction r with
  | zero => intro j a z; exact z
  | succ r ih =>
    intro j a z
    obtain ⟨m, h1, h2⟩ := z
    exact ⟨m, h j a m h1 (is_c_le hP r (j + 1) m b h2), ih (j + 1) m h2⟩
theorem is_c_ap {P : Nat → Nat → Nat → Prop} : ∀ (r j a m b : Nat), is_c P r j a m → P (j + r) m b → is_c P (r + 1) j a b := by
  intro r
  induction r with
  | zero => intro j a m b h1 h2; subst h1; exact ⟨b, h2, rfl⟩
  | succ r ih =>
    intro j a m b h1 h2
    obtain ⟨m1, g1, g2⟩ := h1
    exact ⟨m1, g1, ih (j + 1) m1 m b g2 (by rw [show j + 1 + r = j + (r + 1) by omega]; exact h2)⟩
section IST
variable {B B' : Nat → Nat → Int32} {i : Nat} {ct : Nat → Nat} {pt : Nat → Nat → Nat} {sz : Nat → Nat}
theorem is_lt : ∀ (d u a b : Nat), is_t B i ct pt sz d u a b → a < b := by
  intro d
  induction d with
  | zero => intro u a b h; exact h.elim
  | succ d ih =>
    intro u a b h
    obtain ⟨-, -, ⟨-, mn, -, -, h⟩ | ⟨-, h⟩ | ⟨-, b1, pp, -, -, -, -, -, -, h⟩ | ⟨-, -, -, h⟩⟩ := h
    · have := is_c_le (fun j a m z => ih _ a m z.2.2) _ _ _ _ h
      omega
    · have := is_c_le (fun j a m z => ih _ a m z.2.2) _ _ _ _ h
      omega
    · have := ih _ _ _ h
      omega
    · omega
theorem is_kp (e2 : B' 2 = B 2) (e9 : B' 9 = B 9) (e13 : B' 13 = B 13) : ∀ (d u a b : Nat), is_t B i ct pt sz d u a b → kp b B B' → is_t B' i ct pt sz d u a b := by
  intro d
  induction d with
  | zero => intro u a b h; exact h.elim
  | succ d ih =>
    intro u a b h hk
    have hab := is_lt (d + 1) u a b h
    obtain ⟨h1, h2, h3⟩ := h
    refine ⟨(hk 44 (by omega) (by omega) a hab).trans h1, h2, ?_⟩
    rw [e2, e9, e13]
    rcases h3 with ⟨x1, mn, x2, x3, h⟩ | ⟨x1, h⟩ | ⟨x1, b1, pp, x2, x3, x4, x5, x6, x7, h⟩ | h
    · refine Or.inl ⟨x1, mn, x2, (hk 49 (by omega) (by omega) a hab).trans x3, is_c_map (fun j a m z => is_lt _ _ a m z.2.2) (fun j a9 m z hm => ?_) _ _ _ h⟩
      have := is_lt _ _ _ _ z.2.2
      exact ⟨(hk 46 (by omega) (by omega) a9 (by omega)).trans z.1, (hk 47 (by omega) (by omega) a9 (by omega)).trans z.2.1, ih _ a9 m z.2.2 (hk.le hm)⟩
    · refine Or.inr (Or.inl ⟨x1, is_c_map (fun j a m z => is_lt _ _ a m z.2.2) (fun j a9 m z hm => ?_) _ _ _ h⟩)
      have := is_lt _ _ _ _ z.2.2
      exact ⟨(hk 46 (by omega) (by omega) a9 (by omega)).trans z.1, (hk 47 (by omega) (by omega) a9 (by omega)).trans z.2.1, ih _ a9 m z.2.2 (hk.le hm)⟩
    · have := is_lt _ _ _ _ h
      exact Or.inr (Or.inr (Or.inl ⟨x1, b1, pp, x2, x3, (hk 45 (by omega) (by omega) a hab).trans x4, x5, (hk 46 (by omega) (by omega) _ (by omega)).trans x6, (hk 47 (by omega) (by omega) _ (by omega)).trans x7, ih _ _ _ h hk⟩))
    · exact Or.inr (Or.inr (Or.inr h))
end IST
/-- how many of the first items lend x -/
def nbw (B : Nat → Nat → Int32) (x : Nat) : Nat → Nat
  | 0 => 0
  | k + 1 => if B 2 (B 44 k).toNatClampNeg = 12 ∧ B 48 k = nI x then nbw B x k + 1 else nbw B x k
def RP (B : Nat → Nat → Int32) (n : Nat) : Prop := ∀ x, x < 102 → B 21 x = nI (nbw B x n)
theorem nbw_c {B B' : Nat → Nat → Int32} {x : Nat} (e2 : B' 2 = B 2) : ∀ n, (∀ k, k < n → B' 44 k = B 44 k ∧ B' 48 k = B 48 k) → nbw B' x n = nbw B x n := by
  intro n
  induction n with
  | zero => intro _; rfl
  | succ n ih =>
    intro h
    rw [nbw, nbw, e2, (h n (by omega)).1, (h n (by omega)).2, ih (fun k hk => h k (by omega))]
/-- an item that lends nothing -/
theorem RP.n {B B' : Nat → Nat → Int32} {n u : Nat} (h : RP B n) (e2 : B' 2 = B 2) (e21 : B' 21 = B 21) (hk : kp n B B') (e44 : B' 44 n = nI u) (hu : u < 32) (h12 : ¬ B 2 u = 12) : RP B' (n + 1) := by
  intro x hx
  rw [nbw, e21, nbw_c e2 n (fun k hk9 => ⟨hk 44 (by omega) (by omega) k hk9, hk 48 (by omega) (by omega) k hk9⟩), if_neg]
  · exact h x hx
  · rintro ⟨z, -⟩
    rw [e2, e44, nI_clamp (by omega)] at z
    exact h12 z
