theorem sw_tab (x : Int32) (lo n : Nat) (h : lo + n < 2147483648) : (∃ j, j < n ∧ x = nI (lo + j)) ∨ (x.toInt < (lo : Int) ∨ ((lo : Int) + n - 1) < x.toInt) := by
  by_cases h1 : x.toInt < (lo : Int)
  · exact Or.inr (Or.inl h1)
  by_cases h2 : ((lo : Int) + n - 1) < x.toInt
  · exact Or.inr (Or.inr h2)
  left
  have h3 : ¬ x < 0 := fun z => by
    have := Int32.lt_iff_toInt_lt.mp z
    have e : (0 : Int32).toInt = 0 := rfl
    omega
  obtain ⟨j, hj, e⟩ := nI_of h3
  have ej : x.toInt = (j : Int) := by rw [e, nI_toInt hj]
  exact ⟨j - lo, by omega, by rw [e, show lo + (j - lo) = j by omega]⟩

theorem sw_ne {x : Int32} {lo hi : Int} {k : Nat} (h : x.toInt < lo ∨ hi < x.toInt) (h1 : lo ≤ (k : Int)) (h2 : (k : Int) ≤ hi) (hk : k < 2147483648) : ¬ x = nI k := fun e => by
  rw [e, nI_toInt hk] at h
  omega
/-- has the draft as many parts as a kind wants -/
def hp_of (x n : Int32) : Prop := (x = 8 ∧ n = 1) ∨ ((x = 9 ∨ x = 10) ∧ ¬ n < 1) ∨ (¬ x = 8 ∧ ¬ x = 9 ∧ ¬ x = 10 ∧ n = 0)
theorem hp_8 {x n : Int32} (h : x = 8) : hp_of x n ↔ n = 1 := by
  subst h
  exact ⟨fun z => z.elim (fun y => y.2) (fun y => y.elim (fun q => absurd q.1 (by decide)) (fun q => absurd rfl q.1)), fun z => Or.inl ⟨rfl, z⟩⟩
theorem hp_9 {x n : Int32} (h : x = 9 ∨ x = 10) : hp_of x n ↔ ¬ n < 1 := by
  refine ⟨fun z => z.elim (fun y => ?_) (fun y => y.elim (fun q => q.2) (fun q => h.elim (fun w => absurd w q.2.1) (fun w => absurd w q.2.2.1))), fun z => Or.inr (Or.inl ⟨h, z⟩)⟩
  rcases h with h | h <;> rw [h] at y <;> exact absurd y.1 (by decide)
theorem hp_d {x n : Int32} (h : x.toInt < (8 : Int) ∨ ((8 : Int) + 3 - 1) < x.toInt) : hp_of x n ↔ n = 0 := by
  have a : ¬ x = 8 := sw_ne (k := 8) h (by decide) (by decide) (by decide)
  have b : ¬ x = 9 := sw_ne (k := 9) h (by decide) (by decide) (by decide)
  have c : ¬ x = 10 := sw_ne (k := 10) h (by decide) (by decide) (by decide)
  exact ⟨fun z => z.elim (fun y => absurd y.1 a) (fun y => y.elim (fun q => q.1.elim (fun w => absurd w b) (fun w => absurd w c)) (fun q => q.2.2.2)), fun z => Or.inr (Or.inr ⟨a, b, c, z⟩)⟩

set_option maxHeartbeats 4000000 in
set_option maxRecDepth 100000 in
theorem ht_hc_hasPartsOf {l : Launch} {D : va_G} {tl : List (ClassId × FieldType)} {Z : (Nat → Prop) → State → Heap → Prop} {K : List Nat} {am : Nat → Nat} {ks : Nat → ClassId} {N : Nat → Nat} {S : gS} {k : Nat} (x : Int32) (h0 : 0 ∈ K) (n : Int32) (hn : S.1 0 3 = .int n) : MT (hc_π l D ks tl Z) (m_hc_hasPartsOf k 0 0) 0 0 [.ref (am 0), .int x] (gw K am ks N S) (fun r w => w = (gw K am ks N S) ∧ ∃ y, r = some (.int y) ∧ mo_bl y (hp_of x n)) := by
  refine mt_of pl_hc rfl (Nat.le_of_ble_eq_true rfl) (ev_eq (lv' := [some (.ref (am 0)), some (.int x)]) ?_)
  refine ev_iload_1 0 d_hc_hasPartsOf_0 ?_
  rcases sw_tab (x) 8 3 (by decide) with ⟨j1, hj1, e1⟩ | e1
  · obtain h1 | h1 | h1 : j1 = 0 ∨ j1 = 1 ∨ j1 = 2 := by omega
    · subst h1
      replace e1 : x = 8 := e1
      refine ev_topi 8 e1 ?_
      refine ev_tabIn 1 28 d_hc_hasPartsOf_1 (by decide) (by decide) rfl ?_
      refine ev_aload_0 28 d_hc_hasPartsOf_28 ?_
      refine gw_get 29 (0) 3 d_hc_hasPartsOf_29 lk_hc_22 h0 rfl (.int n) hn ?_
      refine ev_iconst_1 32 d_hc_hasPartsOf_32 ?_
      refine ev_icmpne 33 40 d_hc_hasPartsOf_33 (fun c33 => ?_) (fun c33 => ?_)
      · refine ev_iconst_0 40 d_hc_hasPartsOf_40 ?_
        refine ev_zret 41 d_hc_hasPartsOf_41 rfl ?_ ?_
        · rfl
        exact ⟨rfl, _, rfl, Or.inr ⟨rfl, fun z => absurd ((hp_8 e1).mp z) (by first | exact c33 | exact fun w => w c33)⟩⟩
      · refine ev_iconst_1 36 d_hc_hasPartsOf_36 ?_
        refine ev_goto 37 41 d_hc_hasPartsOf_37 ?_
        refine ev_zret 41 d_hc_hasPartsOf_41 rfl ?_ ?_
        · rfl
        exact ⟨rfl, _, rfl, Or.inl ⟨rfl, (hp_8 e1).mpr c33⟩⟩
    · subst h1
      replace e1 : x = 9 := e1
      refine ev_topi 9 e1 ?_
      refine ev_tabIn 1 42 d_hc_hasPartsOf_1 (by decide) (by decide) rfl ?_
      refine ev_aload_0 42 d_hc_hasPartsOf_42 ?_
      refine gw_get 43 (0) 3 d_hc_hasPartsOf_43 lk_hc_22 h0 rfl (.int n) hn ?_
      refine ev_iconst_1 46 d_hc_hasPartsOf_46 ?_
      refine ev_icmplt 47 54 d_hc_hasPartsOf_47 (fun c47 => ?_) (fun c47 => ?_)
      · refine ev_iconst_0 54 d_hc_hasPartsOf_54 ?_
        refine ev_zret 55 d_hc_hasPartsOf_55 rfl ?_ ?_
        · rfl
        exact ⟨rfl, _, rfl, Or.inr ⟨rfl, fun z => absurd ((hp_9 (Or.inl e1)).mp z) (by first | exact c47 | exact fun w => w c47)⟩⟩
      · refine ev_iconst_1 50 d_hc_hasPartsOf_50 ?_
        refine ev_goto 51 55 d_hc_hasPartsOf_51 ?_
        refine ev_zret 55 d_hc_hasPartsOf_55 rfl ?_ ?_
        · rfl
        exact ⟨rfl, _, rfl, Or.inl ⟨rfl, (hp_9 (Or.inl e1)).mpr c47⟩⟩
    · subst h1
      replace e1 : x = 10 := e1
      refine ev_topi 10 e1 ?_
      refine ev_tabIn 1 42 d_hc_hasPartsOf_1 (by decide) (by decide) rfl ?_
      refine ev_aload_0 42 d_hc_hasPartsOf_42 ?_
      refine gw_get 43 (0) 3 d_hc_hasPartsOf_43 lk_hc_22 h0 rfl (.int n) hn ?_
      refine ev_iconst_1 46 d_hc_hasPartsOf_46 ?_
      refine ev_icmplt 47 54 d_hc_hasPartsOf_47 (fun c47 => ?_) (fun c47 => ?_)
      · refine ev_iconst_0 54 d_hc_hasPartsOf_54 ?_
        refine ev_zret 55 d_hc_hasPartsOf_55 rfl ?_ ?_
        · rfl
        exact ⟨rfl, _, rfl, Or.inr ⟨rfl, fun z => absurd ((hp_9 (Or.inr e1)).mp z) (by first | exact c47 | exact fun w => w c47)⟩⟩
      · refine ev_iconst_1 50 d_hc_hasPartsOf_50 ?_
        refine ev_goto 51 55 d_hc_hasPartsOf_51 ?_
        refine ev_zret 55 d_hc_hasPartsOf_55 rfl ?_ ?_
        · rfl
        exact ⟨rfl, _, rfl, Or.inl ⟨rfl, (hp_9 (Or.inr e1)).mpr c47⟩⟩
  · refine ev_tabOut 1 56 d_hc_hasPartsOf_1 e1 ?_
    refine ev_aload_0 56 d_hc_hasPartsOf_56 ?_
    refine gw_get 57 (0) 3 d_hc_hasPartsOf_57 lk_hc_22 h0 rfl (.int n) hn ?_
    refine ev_ifne 60 67 d_hc_hasPartsOf_60 (fun c60 => ?_) (fun c60 => ?_)
    · refine ev_iconst_0 67 d_hc_hasPartsOf_67 ?_
      refine ev_zret 68 d_hc_hasPartsOf_68 rfl ?_ ?_
      · rfl
      exact ⟨rfl, _, rfl, Or.inr ⟨rfl, fun z => absurd ((hp_d e1).mp z) (by first | exact c60 | exact fun w => w c60)⟩⟩
    · refine ev_iconst_1 63 d_hc_hasPartsOf_63 ?_
      refine ev_goto 64 68 d_hc_hasPartsOf_64 ?_
      refine ev_zret 68 d_hc_hasPartsOf_68 rfl ?_ ?_
      · rfl
      exact ⟨rfl, _, rfl, Or.inl ⟨rfl, (hp_d e1).mpr c60⟩⟩
