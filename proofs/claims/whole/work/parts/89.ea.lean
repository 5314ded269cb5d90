/-! what a trap leaves as it was -/
def ekp (S S' : gS) : Prop := (∀ k j, ¬ (k = 0 ∧ (j = 11 ∨ j = 17)) → ¬ (gk k = 5 ∧ (j = 2 ∨ j = 3)) → ¬ (gk k = 4 ∧ (j = 2 ∨ j = 3)) → S'.1 k j = S.1 k j) ∧ S'.2 = S.2
theorem ekp.rf (S : gS) : ekp S S := ⟨fun _ _ _ _ _ => rfl, rfl⟩
theorem ekp.tr {S S' S'' : gS} (a : ekp S S') (b : ekp S' S'') : ekp S S'' := ⟨fun k j h1 h2 h3 => (b.1 k j h1 h2 h3).trans (a.1 k j h1 h2 h3), b.2.trans a.2⟩
theorem hkp.ek {S S' : gS} (a : hkp S S') : ekp S S' := ⟨fun k j _ _ h => a.1 k j h, a.2⟩
theorem ekp.g {S S' : gS} {k j : Nat} {v : Value} (a : ekp S S') (h : (k = 0 ∧ (j = 11 ∨ j = 17)) ∨ (gk k = 5 ∧ (j = 2 ∨ j = 3)) ∨ (gk k = 4 ∧ (j = 2 ∨ j = 3))) : ekp S (gsG S' k j v) := ⟨fun k' j' h1 h2 h3 => by
  rw [gsG_nj]
  · exact a.1 k' j' h1 h2 h3
  · by_cases e : k' = k
    · subst e
      refine Or.inr (fun z => ?_)
      subst z
      rcases h with h | h | h
      · exact h1 h
      · exact h2 h
      · exact h3 h
    · exact Or.inl e, a.2⟩
theorem in_ok.ek {K : List Nat} {am N : Nat → Nat} {S S' : gS} {i : Nat} (h : in_ok K am N S i) (a : ekp S S') : in_ok K am N S' i := by
  obtain ⟨h1, h2, h3, h4, h5, h6, h7, h8⟩ := h
  refine ⟨h1, h2, h3, ?_, ?_, h6, h7, ?_⟩
  · rw [a.1 _ 0 (by omega) (by omega) (by omega)]; exact h4
  · rw [a.1 _ 1 (by omega) (by omega) (by omega)]; exact h5
  · rw [a.2]; exact h8
theorem hc_w0.ek {K : List Nat} {am N : Nat → Nat} {S S' : gS} (h : hc_w0 K am N S) (a : ekp S S') : hc_w0 K am N S' := by
  obtain ⟨h1, h2, a0, a1, a2, a3, a4, a5, a6, a7, a8, a9, a10, a11, a12, a13⟩ := h
  have g0 : ∀ j, j ≠ 11 → j ≠ 17 → S'.1 0 j = S.1 0 j := fun j h1 h2 => a.1 0 j (by omega) (fun z => absurd z.1 (by decide)) (fun z => absurd z.1 (by decide))
  have g10 : ∀ j, S'.1 10 j = S.1 10 j := fun j => a.1 10 j (by omega) (fun z => absurd z.1 (by decide)) (fun z => absurd z.1 (by decide))
  unfold hc_w0
  rw [g0 0 (by decide) (by decide), g0 2 (by decide) (by decide), g0 4 (by decide) (by decide), g0 6 (by decide) (by decide), g0 8 (by decide) (by decide), g0 9 (by decide) (by decide), g0 10 (by decide) (by decide), g0 13 (by decide) (by decide), g0 14 (by decide) (by decide), g0 15 (by decide) (by decide), g0 16 (by decide) (by decide), g10, g10, g10]
  exact ⟨h1, h2, a0, a1, a2, a3, a4, a5, a6, a7, a8, a9, a10, a11, a12, a13⟩
theorem nk45 {i i' h : Nat} (hi : i < 6) (hi' : i' < 6) (hh : h < 16) : 203 + 20 * i + h ≠ 200 + 20 * i' := by omega
