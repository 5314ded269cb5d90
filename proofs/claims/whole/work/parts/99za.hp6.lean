/-! a result that lends nothing: no such item is read -/
def NLR (B : Nat → Nat → Int32) (NT : Nat) (ct dp : Nat → Nat) (pt : Nat → Nat → Nat) (t u : Nat) : Prop := ft_R B NT ct dp pt t u ∧ ∃ d, dp u ≤ d ∧ lb_r B ct pt d u = false
theorem NLR.p {B : Nat → Nat → Int32} {NT : Nat} {ct dp : Nat → Nat} {pt : Nat → Nat → Nat} {t u : Nat} (hW : ty_wf B NT ct dp pt) (h : NLR B NT ct dp pt t u) : ¬ B 2 u = 12 ∧ ∀ k, k < ct u → ∃ d, dp (pt u k) ≤ d ∧ lb_r B ct pt d (pt u k) = false := by
  obtain ⟨hf, d, d1, d2⟩ := h
  have hu := hf.2.1
  have u1 := (hW.2.1 u hu).2.2.1
  obtain ⟨e, rfl⟩ : ∃ e, d = e + 1 := ⟨d - 1, by omega⟩
  rw [lb_r] at d2
  by_cases c : B 2 u = 12
  · rw [if_pos c] at d2; exact absurd d2 (by decide)
  · rw [if_neg c] at d2
    refine ⟨c, fun k hk => ⟨e, by have := (hW.2.2 u k hu hk).2.2; omega, ?_⟩⟩
    cases hx : lb_r B ct pt e (pt u k) with
    | false => rfl
    | true => rw [(lb_s_x (ct u) 0).mpr ⟨k, Nat.zero_le _, by omega, hx⟩] at d2; exact absurd d2 (by decide)
theorem NLR.ft {B : Nat → Nat → Int32} {NT : Nat} {ct dp : Nat → Nat} {pt : Nat → Nat → Nat} (hW : ty_wf B NT ct dp pt) : ty_ft B ct pt (NLR B NT ct dp pt) := fun t u h => by
  obtain ⟨g1, g2⟩ := ft_ok hW t u h.1
  refine ⟨g1, fun k hk => ⟨g2 k hk, (h.p hW).2 k ?_⟩⟩
  unfold ty_sh at hk
  split at hk <;> omega
theorem no_lend {B : Nat → Nat → Int32} {NT i : Nat} {ct dp : Nat → Nat} {pt : Nat → Nat → Nat} (hW : ty_wf B NT ct dp pt) (hD : ty_rd B NT ct) (h8 : mo_b8 B) (hi : i < 6) {tt uu : Nat} {p : Int32} {q : Nat × (Nat → Nat → Int32)} (hr : NLR B NT ct dp pt tt uu) (h : rd_i (B 4) ct i 5 tt uu p (-1) 0 0 B = .inr q) : ¬ ∃ k, k < q.1 ∧ kdI q.2 k = 12 := by
  have hNT := hW.1
  have hP := rd_prR (P := fun n B' => mo_sc B B' ∧ ∀ k, k < n → ¬ kdI B' k = 12) hW hD (NLR.ft hW) h8 hi (fun t u h => ⟨h.1.1, h.1.2.1⟩) (fun n B' h => h.1) ?_ 5 tt uu p (-1) 0 0 B q hr ⟨mo_sc.rf _, fun k hk => absurd hk (Nat.not_lt_zero k)⟩ h
  · rintro ⟨k, k1, k2⟩
    exact hP.2 k k1 k2
  · intro B1 tt uu p ab inn n q hr ⟨h1, h3⟩ hx
    have hu := hr.1.2.1
    have e2 : B1 2 = B 2 := h1 2 (by decide) (by decide) (by decide) (by decide)
    have n12 : ¬ B1 2 uu = 12 := by rw [e2]; exact (hr.p hW).1
    have hal : B1 2 tt = B1 2 uu := by rw [e2]; exact (NLR.ft hW tt uu hr).1.1
    have key : ∀ C : Nat → Nat → Int32, mo_sc B1 C → (∀ k, k < n → C 44 k = B1 44 k) → C 44 n = nI uu → mo_sc B C ∧ ∀ k, k < n + 1 → ¬ kdI C k = 12 := fun C c1 c2 c3 => by
      have f2 : C 2 = B1 2 := c1 2 (by decide) (by decide) (by decide) (by decide)
      refine ⟨h1.tr c1, fun k hk => ?_⟩
      by_cases e : k = n
      · subst e; rw [kdI, f2, c3, nI_clamp (by omega)]; exact n12
      · rw [kdI, f2, c2 k (by omega)]; exact h3 k (by omega)
    obtain ⟨-, ⟨k10, e | e⟩ | ⟨k10, hn, e⟩⟩ := ri_1c hx
    · rw [e]; exact key _ rB1_sc (fun k hk => rB1_kp 44 (by omega) (by omega) k hk) rB1_44
    · rw [e]; exact key _ (ri_B0_sc _ _ _ _ _ _) (fun k hk => rB0_kp 44 (by omega) (by omega) k hk) rB0_44
    · obtain ⟨A, eA⟩ : ∃ A, A = ri_B0 B1 n uu p ab inn := ⟨_, rfl⟩
      have ak : ∀ f, f < 44 ∨ 47 < f → A f = B1 f := fun f hf => by rw [eA]; exact rB0_k hf
      have a44 : A 44 n = nI uu := by rw [eA]; exact rB0_44
      have akp : ∀ k, k < n → A 44 k = B1 44 k := fun k hk => by rw [eA]; exact rB0_kp 44 (by omega) (by omega) k hk
      have asc : mo_sc B1 A := by rw [eA]; exact ri_B0_sc _ _ _ _ _ _
      rw [← eA] at hn e
      have hA8 : mo_b8 A := fun j hj => by rw [ak 13 (by omega), h1 13 (by decide) (by decide) (by decide) (by decide)]; exact h8 j hj
      obtain ⟨x, x1, x2, x3, x4, hc⟩ := rh_c hi hA8 hn
      rcases hc with ⟨k12, -⟩ | ⟨-, -, -, e9⟩
      · rw [ak 2 (by omega), hal] at k12; exact absurd k12 n12
      · rw [e, e9]
        have g44 : va_up (rh_48 A n x) 20 (upd (A 20) x 1) 44 = A 44 := rh_ne2 (by decide) (by decide)
        refine key _ ((asc.tr (mo_sc.up (by omega))).tr (mo_sc.up (by omega))) (fun k hk => ?_) ?_
        · rw [g44]; exact akp k hk
        · rw [g44]; exact a44
