theorem sw_tab (x : Int32) (lo n : Nat) (h : lo + n < 2147483648) : (∃ j, j < n ∧ x = nI (lo + j)) ∨ (x.toInt < (lo : Int) ∨ ((lo : Int) + n - 1) < x.toInt) := by
  by_cases h1 : x.toInt < (lo : Int)
  · exact Or.inr (Or.inl h1)
  by_cases h2 : ((lo : Int) + n - 1) < x.toInt
  · exact Or.inr (Or.inr h2)
  left
  have h3 : ¬ x < 0 := fun z => by
    have := Int32.lt_iff_toInt_lt.mp z
    have e : (0 : Int32).toInt = 0 := rfl
    omega
  obtain ⟨j, hj, e⟩ := nI_of h3
  have ej : x.toInt = (j : Int) := by rw [e, nI_toInt hj]
  exact ⟨j - lo, by omega, by rw [e, show lo + (j - lo) = j by omega]⟩

theorem sw_ne {x : Int32} {lo hi : Int} {k : Nat} (h : x.toInt < lo ∨ hi < x.toInt) (h1 : lo ≤ (k : Int)) (h2 : (k : Int) ≤ hi) (hk : k < 2147483648) : ¬ x = nI k := fun e => by
  rw [e, nI_toInt hk] at h
  omega
/-- has the draft as many parts as a kind wants -/
def hp_of (x n : Int32) : Prop := (x = 8 ∧ n = 1) ∨ ((x = 9 ∨ x = 10) ∧ ¬ n < 1) ∨ (¬ x = 8 ∧ ¬ x = 9 ∧ ¬ x = 10 ∧ n = 0)
theorem hp_8 {x n : Int32} (h : x = 8) : hp_of x n ↔ n = 1 := by
  subst h
  exact ⟨fun z => z.elim (fun y => y.2) (fun y => y.elim (fun q => absurd q.1 (by decide)) (fun q => absurd rfl q.1)), fun z => Or.inl ⟨rfl, z⟩⟩
theorem hp_9 {x n : Int32} (h : x = 9 ∨ x = 10) : hp_of x n ↔ ¬ n < 1 := by
  refine ⟨fun z => z.elim (fun y => ?_) (fun y => y.elim (fun q => q.2) (fun q => h.elim (fun w => absurd w q.2.1) (fun w => absurd w q.2.2.1))), fun z => Or.inr (Or.inl ⟨h, z⟩)⟩
  rcases h with h | h <;> rw [h] at y <;> exact absurd y.1 (by decide)
theorem hp_d {x n : Int32} (h : x.toInt < (8 : Int) ∨ ((8 : Int) + 3 - 1) < x.toInt) : hp_of x n ↔ n = 0 := by
  have a : ¬ x = 8 := sw_ne (k := 8) h (by decide) (by decide) (by decide)
  have b : ¬ x = 9 := sw_ne (k := 9) h (by decide) (by decide) (by decide)
  have c : ¬ x = 10 := sw_ne (k := 10) h (by decide) (by decide) (by decide)
  exact ⟨fun z => z.elim (fun y => absurd y.1 a) (fun y => y.elim (fun q => q.1.elim (fun w => absurd w b) (fun w => absurd w c)) (fun q => q.2.2.2)), fun z => Or.inr (Or.inr ⟨a, b, c, z⟩)⟩

set_option maxHeartbeats 4000000 in
set_option maxRecDepth 100000 in
theorem ht_hc_hasPartsOf {l : Launch} {D : va_G} {tl : List (ClassId × FieldType)} {Z : (Nat → Prop) → State → Heap → Prop} {K : List Nat} {am : Nat → Nat} {ks : Nat → ClassId} {N : Nat → Nat} {S : gS} {k : Nat} (x : Int32) (h0 : 0 ∈ K) (n : Int32) (hn : S.1 0 3 = .int n) : MT (hc_π l D ks tl Z) (m_hc_hasPartsOf k 0 0) 0 0 [.ref (am 0), .int x] (gw K am ks N S) (fun r w => w = (gw K am ks N S) ∧ ∃ y, r = some (.int y) ∧ mo_bl y (hp_of x n)) := by
  refine mt_of pl_hc rfl (Nat.le_of_ble_eq_true rfl) (ev_eq (lv' := [some (.ref (am 0)), some (.int x)]) ?_)
  refine ev_iload_1 0 d_hc_hasPartsOf_0 ?_
  rcases sw_tab (x) 8 3 (by decide) with ⟨j1, hj1, e1⟩ | e1
  · obtain h1 | h1 | h1 : j1 = 0 ∨ j1 = 1 ∨ j1 = 2 := by omega
    · subst h1
      replace e1 : x = 8 := e1
      refine ev_topi 8 e1 ?_
      refine ev_tabIn 1 28 d_hc_hasPartsOf_1 (by decide) (by decide) rfl ?_
      refine ev_aload_0 28 d_hc_hasPartsOf_28 ?_
      refine gw_get 29 (0) 3 d_hc_hasPartsOf_29 lk_hc_22 h0 rfl (.int n) hn ?_
      refine ev_iconst_1 32 d_hc_hasPartsOf_32 ?_
      refine ev_icmpne 33 40 d_hc_hasPartsOf_33 (fun c33 => ?_) (fun c33 => ?_)
      · refine ev_iconst_0 40 d_hc_hasPartsOf_40 ?_
        refine ev_zret 41 d_hc_hasPartsOf_41 rfl ?_ ?_
        · rfl
        exact ⟨rfl, _, rfl, Or.inr ⟨rfl, fun z => absurd ((hp_8 e1).mp z) (by first | exact c33 | exact fun w => w c33)⟩⟩
      · refine ev_iconst_1 36 d_hc_hasPartsOf_36 ?_
        refine ev_goto 37 41 d_hc_hasPartsOf_37 ?_
        refine ev_zret 41 d_hc_hasPartsOf_41 rfl ?_ ?_
        · rfl
        exact ⟨rfl, _, rfl, Or.inl ⟨rfl, (hp_8 e1).mpr c33⟩⟩
    · subst h1
      replace e1 : x = 9 := e1
      refine ev_topi 9 e1 ?_
      refine ev_tabIn 1 42 d_hc_hasPartsOf_1 (by decide) (by decide) rfl ?_
      refine ev_aload_0 42 d_hc_hasPartsOf_42 ?_
      refine gw_get 43 (0) 3 d_hc_hasPartsOf_43 lk_hc_22 h0 rfl (.int n) hn ?_
      refine ev_iconst_1 46 d_hc_hasPartsOf_46 ?_
      refine ev_icmplt 47 54 d_hc_hasPartsOf_47 (fun c47 => ?_) (fun c47 => ?_)
      · refine ev_iconst_0 54 d_hc_hasPartsOf_54 ?_
        refine ev_zret 55 d_hc_hasPartsOf_55 rfl ?_ ?_
        · rfl
        exact ⟨rfl, _, rfl, Or.inr ⟨rfl, fun z => absurd ((hp_9 (Or.inl e1)).mp z) (by first | exact c47 | exact fun w => w c47)⟩⟩
      · refine ev_iconst_1 50 d_hc_hasPartsOf_50 ?_
        refine ev_goto 51 55 d_hc_hasPartsOf_51 ?_
        refine ev_zret 55 d_hc_hasPartsOf_55 rfl ?_ ?_
        · rfl
        exact ⟨rfl, _, rfl, Or.inl ⟨rfl, (hp_9 (Or.inl e1)).mpr c47⟩⟩
    · subst h1
      replace e1 : x = 10 := e1
      refine ev_topi 10 e1 ?_
      refine ev_tabIn 1 42 d_hc_hasPartsOf_1 (by decide) (by decide) rfl ?_
      refine ev_aload_0 42 d_hc_hasPartsOf_42 ?_
      refine gw_get 43 (0) 3 d_hc_hasPartsOf_43 lk_hc_22 h0 rfl (.int n) hn ?_
      refine ev_iconst_1 46 d_hc_hasPartsOf_46 ?_
      refine ev_icmplt 47 54 d_hc_hasPartsOf_47 (fun c47 => ?_) (fun c47 => ?_)
      · refine ev_iconst_0 54 d_hc_hasPartsOf_54 ?_
        refine ev_zret 55 d_hc_hasPartsOf_55 rfl ?_ ?_
        · rfl
        exact ⟨rfl, _, rfl, Or.inr ⟨rfl, fun z => absurd ((hp_9 (Or.inr e1)).mp z) (by first | exact c47 | exact fun w => w c47)⟩⟩
      · refine ev_iconst_1 50 d_hc_hasPartsOf_50 ?_
        refine ev_goto 51 55 d_hc_hasPartsOf_51 ?_
        refine ev_zret 55 d_hc_hasPartsOf_55 rfl ?_ ?_
        · rfl
        exact ⟨rfl, _, rfl, Or.inl ⟨rfl, (hp_9 (Or.inr e1)).mpr c47⟩⟩
  · refine ev_tabOut 1 56 d_hc_hasPartsOf_1 e1 ?_
    refine ev_aload_0 56 d_hc_hasPartsOf_56 ?_
    refine gw_get 57 (0) 3 d_hc_hasPartsOf_57 lk_hc_22 h0 rfl (.int n) hn ?_
    refine ev_ifne 60 67 d_hc_hasPartsOf_60 (fun c60 => ?_) (fun c60 => ?_)
    · refine ev_iconst_0 67 d_hc_hasPartsOf_67 ?_
      refine ev_zret 68 d_hc_hasPartsOf_68 rfl ?_ ?_
      · rfl
      exact ⟨rfl, _, rfl, Or.inr ⟨rfl, fun z => absurd ((hp_d e1).mp z) (by first | exact c60 | exact fun w => w c60)⟩⟩
    · refine ev_iconst_1 63 d_hc_hasPartsOf_63 ?_
      refine ev_goto 64 68 d_hc_hasPartsOf_64 ?_
      refine ev_zret 68 d_hc_hasPartsOf_68 rfl ?_ ?_
      · rfl
      exact ⟨rfl, _, rfl, Or.inl ⟨rfl, (hp_d e1).mpr c60⟩⟩

theorem sw_tn {x k : Int32} (h : ¬ x = k) : ¬ k.toInt = x.toInt := fun e => h (Int32.toInt_inj.mp e).symm
theorem sw_lk2 {a b : Int} {p q d x : Int} (h1 : ¬ a = x) (h2 : ¬ b = x) : Op.lookupswitch.offset [(a, p), (b, q)] d x = d := by
  simp [Op.lookupswitch.offset, h1, h2]
theorem sw_lk3 {a b c : Int} {p q r d x : Int} (h1 : ¬ a = x) (h2 : ¬ b = x) (h3 : ¬ c = x) : Op.lookupswitch.offset [(a, p), (b, q), (c, r)] d x = d := by
  simp [Op.lookupswitch.offset, h1, h2, h3]
/-- does a number suit a kind -/
def nu_of (x n : Int32) : Prop := if x = 7 then ¬ n < 1 ∧ ¬ 200 < n else if x = 11 ∨ x = 12 then ¬ n < 0 ∧ ¬ 4 ≤ n else True

set_option maxHeartbeats 4000000 in
set_option maxRecDepth 100000 in
theorem ht_hc_isNumberOf {π : ev_P} {ws : va_W} {k : Nat} (hZ : ev_Zok π.2.2.2.2) (hk0 : 0 < k) (x : Int32) (n : Int32) : MT π (m_hc_isNumberOf k 0 0) 0 0 [.int x, .int n] ws (fun r w => w = ws ∧ ∃ y, r = some (.int y) ∧ mo_bl y (nu_of x n)) := by
  refine mt_of pl_hc rfl (Nat.le_of_ble_eq_true rfl) (ev_eq (lv' := [some (.int x), some (.int n)]) ?_)
  refine ev_iload_0 0 d_hc_isNumberOf_0 ?_
  by_cases e1_0 : x = 7
  · refine ev_topi 7 e1_0 ?_
    refine ev_look 1 36 d_hc_isNumberOf_1 (by decide) rfl ?_
    refine ev_iload_1 36 d_hc_isNumberOf_36 ?_
    refine ev_iconst_1 37 d_hc_isNumberOf_37 ?_
    refine ev_icmplt 38 52 d_hc_isNumberOf_38 (fun c38 => ?_) (fun c38 => ?_)
    · refine ev_iconst_0 52 d_hc_isNumberOf_52 ?_
      refine ev_zret 53 d_hc_isNumberOf_53 rfl ?_ ?_
      · first | rfl | exact mo_bn hy
      exact ⟨rfl, _, rfl, Or.inr ⟨rfl, by unfold nu_of; rw [if_pos e1_0]; exact fun z => z.1 c38⟩⟩
    · refine ev_iload_1 41 d_hc_isNumberOf_41 ?_
      refine ev_sipush (200) 42 d_hc_isNumberOf_42 (by decide) ?_
      refine ev_icmpgt 45 52 d_hc_isNumberOf_45 (fun c45 => ?_) (fun c45 => ?_)
      · refine ev_iconst_0 52 d_hc_isNumberOf_52 ?_
        refine ev_zret 53 d_hc_isNumberOf_53 rfl ?_ ?_
        · first | rfl | exact mo_bn hy
        exact ⟨rfl, _, rfl, Or.inr ⟨rfl, by unfold nu_of; rw [if_pos e1_0]; exact fun z => z.2 c45⟩⟩
      · refine ev_iconst_1 48 d_hc_isNumberOf_48 ?_
        refine ev_goto 49 53 d_hc_isNumberOf_49 ?_
        refine ev_zret 53 d_hc_isNumberOf_53 rfl ?_ ?_
        · first | rfl | exact mo_bn hy
        exact ⟨rfl, _, rfl, Or.inl ⟨rfl, by unfold nu_of; rw [if_pos e1_0]; exact ⟨c38, c45⟩⟩⟩
  by_cases e1_1 : x = 11
  · refine ev_topi 11 e1_1 ?_
    refine ev_look 1 54 d_hc_isNumberOf_1 (by decide) rfl ?_
    refine ev_iload_1 54 d_hc_isNumberOf_54 ?_
    refine ev_callS 55 [.int n] [] d_hc_isNumberOf_55 hZ (kc_hc_198 (k9 := 0) (mc9 := 0) (ms9 := 0)) (hr_of hk0 (by decide) (by decide) (by decide)) (ht_hc_isResourceKind n) (fun r w9 hw => ?_)
    obtain ⟨e1, y, e2, hy⟩ := hw
    subst e1
    subst e2
    refine ev_eq (st' := [.int y]) ?_
    refine ev_zret 58 d_hc_isNumberOf_58 rfl ?_ ?_
    · first | rfl | exact mo_bn hy
    exact ⟨rfl, _, rfl, by unfold nu_of; rw [if_neg e1_0, if_pos (Or.inl e1_1)]; exact hy⟩
  by_cases e1_2 : x = 12
  · refine ev_topi 12 e1_2 ?_
    refine ev_look 1 54 d_hc_isNumberOf_1 (by decide) rfl ?_
    refine ev_iload_1 54 d_hc_isNumberOf_54 ?_
    refine ev_callS 55 [.int n] [] d_hc_isNumberOf_55 hZ (kc_hc_198 (k9 := 0) (mc9 := 0) (ms9 := 0)) (hr_of hk0 (by decide) (by decide) (by decide)) (ht_hc_isResourceKind n) (fun r w9 hw => ?_)
    obtain ⟨e1, y, e2, hy⟩ := hw
    subst e1
    subst e2
    refine ev_eq (st' := [.int y]) ?_
    refine ev_zret 58 d_hc_isNumberOf_58 rfl ?_ ?_
    · first | rfl | exact mo_bn hy
    exact ⟨rfl, _, rfl, by unfold nu_of; rw [if_neg e1_0, if_pos (Or.inr e1_2)]; exact hy⟩
  refine ev_look 1 59 d_hc_isNumberOf_1 (by decide) (sw_lk3 (sw_tn (k := 7) e1_0) (sw_tn (k := 11) e1_1) (sw_tn (k := 12) e1_2)) ?_
  refine ev_iconst_1 59 d_hc_isNumberOf_59 ?_
  refine ev_zret 60 d_hc_isNumberOf_60 rfl ?_ ?_
  · first | rfl | exact mo_bn hy
  exact ⟨rfl, _, rfl, Or.inl ⟨rfl, by unfold nu_of; rw [if_neg e1_0, if_neg (fun z => z.elim e1_1 e1_2)]; trivial⟩⟩
