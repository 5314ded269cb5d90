theorem sw_tab (x : Int32) (lo n : Nat) (h : lo + n < 2147483648) : (∃ j, j < n ∧ x = nI (lo + j)) ∨ (x.toInt < (lo : Int) ∨ ((lo : Int) + n - 1) < x.toInt) := by
  by_cases h1 : x.toInt < (lo : Int)
  · exact Or.inr (Or.inl h1)
  by_cases h2 : ((lo : Int) + n - 1) < x.toInt
  · exact Or.inr (Or.inr h2)
  left
  have h3 : ¬ x < 0 := fun z => by
    have := Int32.lt_iff_toInt_lt.mp z
    have e : (0 : Int32).toInt = 0 := rfl
    omega
  obtain ⟨j, hj, e⟩ := nI_of h3
  have ej : x.toInt = (j : Int) := by rw [e, nI_toInt hj]
  exact ⟨j - lo, by omega, by rw [e, show lo + (j - lo) = j by omega]⟩
