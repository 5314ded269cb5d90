/-! reading makes the tree -/
section RD5
variable {B : Nat → Nat → Int32} {ii nn uu : Nat} {p ab inn : Int32}
theorem rB0_46 : ri_B0 B nn uu p ab inn 46 nn = ab := by
  unfold ri_B0
  rw [va_up_ne _ _ (by decide), va_up_self, upd_eq]
theorem rB0_47 : ri_B0 B nn uu p ab inn 47 nn = inn := by
  unfold ri_B0
  rw [va_up_self, upd_eq]
theorem rB1_46 : ri_B1 B ii nn uu p ab inn 46 nn = ab := by
  unfold ri_B1
  rw [va_up_ne _ _ (by decide), va_up_ne _ _ (by decide)]
  exact rB0_46
theorem rB1_47 : ri_B1 B ii nn uu p ab inn 47 nn = inn := by
  unfold ri_B1
  rw [va_up_ne _ _ (by decide), va_up_ne _ _ (by decide)]
  exact rB0_47
end RD5
def kpo (i : Nat) (B B' : Nat → Nat → Int32) : Prop := ∀ x, ¬ (17 * i < x ∧ x ≤ 17 * i + 16) → B' 20 x = B 20 x ∧ B' 21 x = B 21 x
theorem kpo.tr {i : Nat} {B B' B'' : Nat → Nat → Int32} (a : kpo i B B') (b : kpo i B' B'') : kpo i B B'' := fun x h => ⟨(b x h).1.trans (a x h).1, (b x h).2.trans (a x h).2⟩
theorem kpo.e {i : Nat} {B B' : Nat → Nat → Int32} (h1 : B' 20 = B 20) (h2 : B' 21 = B 21) : kpo i B B' := fun x _ => ⟨by rw [h1], by rw [h2]⟩
theorem kpo_h {A : Nat → Nat → Int32} {i tt n : Nat} {p : Int32} (hi : i < 6) (h8 : mo_b8 A) : kpo i A (mo_rh A i tt p n).2 := by
  intro x hx
  by_cases gp : p < 0 ∨ 255 < p
  · rw [mo_rh, if_pos gp]; exact ⟨rfl, rfl⟩
  obtain ⟨g1, g2⟩ := bb_p h8 hi gp
  rw [rh_eq gp g2 g1]
  by_cases c1 : ¬ (1 ≤ bb A i p ∧ bb A i p ≤ 16 ∧ ¬ A 16 (17 * i + bb A i p) = 0 ∧ A 20 (17 * i + bb A i p) = 0)
  · rw [if_pos c1]; exact ⟨rfl, rfl⟩
  rw [if_neg c1]
  have c1' := Decidable.of_not_not c1
  have ne : x ≠ 17 * i + bb A i p := fun z => hx (by omega)
  split
  · dsimp only
    exact ⟨by rw [rh_ne (by decide)], by rw [rh_ne (by decide)]⟩
  split
  · dsimp only
    exact ⟨by rw [rh_ne2 (by decide) (by decide)], by rw [va_up_self, upd_ne ne]⟩
  split
  · dsimp only
    exact ⟨by rw [rh_ne (by decide)], by rw [rh_ne (by decide)]⟩
  split
  · dsimp only
    exact ⟨by rw [rh_ne (by decide)], by rw [rh_ne (by decide)]⟩
  · dsimp only
    exact ⟨by rw [va_up_self, upd_ne ne], by rw [rh_ne2 (by decide) (by decide)]⟩
def TR (B0 B : Nat → Nat → Int32) (i : Nat) (ct : Nat → Nat) (pt : Nat → Nat → Nat) (sz : Nat → Nat) (d uu n : Nat) (ab inn : Int32) (q : Nat × (Nat → Nat → Int32)) : Prop :=
  mo_sc B0 q.2 ∧ kp n B q.2 ∧ n < q.1 ∧ q.1 ≤ 200 ∧ q.2 46 n = ab ∧ q.2 47 n = inn ∧ is_t q.2 i ct pt sz d uu n q.1 ∧ RP q.2 q.1 ∧ kpo i B q.2
/-- a chain of parts -/
def TC (i : Nat) (B0 B1 : Nat → Nat → Int32) (n1 : Nat) (q : Nat × (Nat → Nat → Int32)) (P : (Nat → Nat → Int32) → Nat → Nat → Nat → Prop) (r j : Nat) : Prop :=
  mo_sc B0 q.2 ∧ kp n1 B1 q.2 ∧ n1 ≤ q.1 ∧ q.1 ≤ 200 ∧ RP q.2 q.1 ∧ is_c (P q.2) r j n1 q.1 ∧ kpo i B1 q.2
theorem rp_h {B : Nat → Nat → Int32} {i tt uu n NT : Nat} {p ab inn : Int32} (hi : i < 6) (h8 : mo_b8 B) (h : RP B n) (hx : (mo_rh (ri_B0 B n uu p ab inn) i tt p n).1 = none) (hn : n < 200) (ht : tt < NT) (hu : uu < NT) (hN : NT ≤ 32) (hal : B 2 tt = B 2 uu) : RP (mo_rh (ri_B0 B n uu p ab inn) i tt p n).2 (n + 1) := by
  obtain ⟨A, eA⟩ : ∃ A, A = ri_B0 B n uu p ab inn := ⟨_, rfl⟩
  have a13 : A 13 = B 13 := by rw [eA]; exact rB0_k (by omega)
  have a2 : A 2 = B 2 := by rw [eA]; exact rB0_k (by omega)
  have a21 : A 21 = B 21 := by rw [eA]; exact rB0_k (by omega)
  have a44 : A 44 n = nI uu := by rw [eA]; exact rB0_44
  have akp : kp n B A := by rw [eA]; exact rB0_kp
  rw [← eA] at hx ⊢
  have hA8 : mo_b8 A := fun j hj => by rw [a13]; exact h8 j hj
  by_cases gp : p < 0 ∨ 255 < p
  · rw [mo_rh, if_pos gp] at hx; cases hx
  obtain ⟨g1, g2⟩ := bb_p hA8 hi gp
  have e := rh_eq (B := A) (t := tt) (it := n) gp g2 g1
  rw [e] at hx ⊢
  by_cases c1 : ¬ (1 ≤ bb A i p ∧ bb A i p ≤ 16 ∧ ¬ A 16 (17 * i + bb A i p) = 0 ∧ A 20 (17 * i + bb A i p) = 0)
  · rw [if_pos c1] at hx; cases hx
  rw [if_neg c1] at hx ⊢
  have c1' := Decidable.of_not_not c1
  by_cases c2 : ¬ A 23 (A 17 (17 * i + bb A i p)).toNatClampNeg = A 3 tt
  · rw [if_pos c2] at hx; cases hx
  rw [if_neg c2] at hx ⊢
  by_cases c3 : A 2 tt = 12
  · rw [if_pos c3]
    dsimp only
    intro x hxx
    have e44 : va_up (rh_48 A n (17 * i + bb A i p)) 21 (upd (A 21) (17 * i + bb A i p) (A 21 (17 * i + bb A i p) + 1)) 44 = A 44 := rh_ne2 (by decide) (by decide)
    have e2 : va_up (rh_48 A n (17 * i + bb A i p)) 21 (upd (A 21) (17 * i + bb A i p) (A 21 (17 * i + bb A i p) + 1)) 2 = B 2 := (rh_ne2 (by decide) (by decide)).trans a2
    have e48 : va_up (rh_48 A n (17 * i + bb A i p)) 21 (upd (A 21) (17 * i + bb A i p) (A 21 (17 * i + bb A i p) + 1)) 48 = upd (A 48) n (nI (17 * i + bb A i p)) := (va_up_ne _ _ (by decide)).trans (va_up_self _ _ _)
    rw [nbw, va_up_self, nbw_c e2 n (fun k hk => ⟨by rw [e44]; exact akp 44 (by omega) (by omega) k hk, by rw [e48, upd_ne (by omega)]; exact akp 48 (by omega) (by omega) k hk⟩), e2, e44, e48, upd_eq, a44, nI_clamp (by omega), ← hal, ← a2]
    by_cases ex : x = 17 * i + bb A i p
    · rw [if_pos ⟨c3, by rw [ex]⟩, ← ex, upd_eq, a21, h x hxx, nI_1]
    · rw [if_neg (fun z => ex (n_eq _ _ z.2 (ha := by omega) (hb := by omega)).symm), upd_ne ex, a21]
      exact h x hxx
  · rw [if_neg c3] at hx ⊢
    by_cases c4 : A 18 (17 * i + bb A i p) = 0
    · rw [if_pos c4] at hx; cases hx
    rw [if_neg c4] at hx ⊢
    by_cases c5 : ¬ lnB A (17 * i + bb A i p) ≤ 0
    · rw [if_pos c5] at hx; cases hx
    rw [if_neg c5]
    dsimp only
    refine h.n (u := uu) ((rh_ne2 (by decide) (by decide)).trans a2) ((rh_ne2 (by decide) (by decide)).trans a21) (fun f f1 f2 k hk => ?_) (by rw [rh_ne2 (by decide) (by decide)]; exact a44) (by omega) (by rw [← hal, ← a2]; exact c3)
    by_cases e48 : f = 48
    · subst e48
      rw [va_up_ne _ _ (by decide), rh_48, va_up_self, upd_ne (by omega)]
      exact akp 48 (by omega) (by omega) k hk
    · rw [rh_ne2 e48 (by omega)]
      exact akp f f1 f2 k hk
theorem rd_tree {B0 : Nat → Nat → Int32} {i NT ni : Nat} {ct dp : Nat → Nat} {pt : Nat → Nat → Nat} {sz : Nat → Nat} {R : Nat → Nat → Prop} (C : RC B0 i NT ni ct dp pt sz R) : ∀ (d tt uu : Nat) (p ab inn : Int32) (n : Nat) (B : Nat → Nat → Int32) (q : Nat × (Nat → Nat → Int32)), dp tt ≤ d → R tt uu → mo_sc B0 B → n ≤ 200 → RP B n → rd_i (B0 4) ct i d tt uu p ab inn n B = .inr q → TR B0 B i ct pt sz d uu n ab inn q := by
  obtain ⟨⟨hin, hn6⟩, h8, hW, hD, hF, hRN, hS, hSS⟩ := C
  have hi : i < 6 := by omega
  intro d
  induction d with
  | zero =>
    intro tt uu p ab inn n B q h1 h2
    exact absurd (hW.2.1 tt (hRN tt uu h2).1).2.2.1 (by omega)
  | succ d ihd =>
    intro tt uu p ab inn n B q hdp hR hsc hn hRP h
    obtain ⟨ht, hu⟩ := hRN tt uu hR
    obtain ⟨hal, hparts⟩ := hF tt uu hR
    have hNT := hW.1
    obtain ⟨e7t, ct6, -, -⟩ := hW.2.1 tt ht
    obtain ⟨e7u, cu6, -, -⟩ := hW.2.1 uu hu
    have e2 : B 2 = B0 2 := hsc 2 (by decide) (by decide) (by decide) (by decide)
    have e13 : B 13 = B0 13 := hsc 13 (by decide) (by decide) (by decide) (by decide)
    have PM : ∀ (t' u' k : Nat), dp t' ≤ d → R t' u' → ∀ (r j : Nat) (p : Int32) (n1 : Nat) (B1 : Nat → Nat → Int32) (q : Nat × (Nat → Nat → Int32)), mo_sc B0 B1 → n1 ≤ 200 → RP B1 n1 → rd_m (fun p inn n1 B => rd_i (B0 4) ct i d t' u' p (nI k) inn n1 B) (nI (sz t')) (B0 4 u') r p (nI (j * sz u')) n1 B1 = .inr q → TC i B0 B1 n1 q (fun B' j a b => B' 46 a = nI k ∧ B' 47 a = nI (j * sz u') ∧ is_t B' i ct pt sz d u' a b) r j := by
      intro t' u' k hd' hR' r
      have su : B0 4 u' = nI (sz u') := (hS u' (hRN t' u' hR').2).1
      induction r with
      | zero =>
        intro j p n1 B1 q s1 s2 s3 h
        rw [rd_m] at h
        cases h
        exact ⟨s1, kp.rf _ _, Nat.le_refl _, s2, s3, rfl, kpo.e rfl rfl⟩
      | succ r ih =>
        intro j p n1 B1 q s1 s2 s3 h
        rw [rd_m] at h
        cases hx : rd_i (B0 4) ct i d t' u' p (nI k) (nI (j * sz u')) n1 B1 with
        | inl z => rw [hx] at h; cases h
        | inr q1 =>
          rw [hx] at h
          dsimp only at h
          obtain ⟨a1, a2, a3, a4, a5, a6, a7, a8, a9⟩ := ihd t' u' p (nI k) (nI (j * sz u')) n1 B1 q1 hd' hR' s1 s2 s3 hx
          rw [su, nI_add, show j * sz u' + sz u' = (j + 1) * sz u' by rw [Nat.succ_mul]] at h
          rw [← su] at h
          obtain ⟨b1, b2, b3, b4, b5, b6, b7⟩ := ih (j + 1) _ q1.1 q1.2 q a1 a4 a8 h
          refine ⟨b1, a2.tr b2 (by omega), by omega, b4, b5, ⟨q1.1, ⟨(b2 46 (by omega) (by omega) n1 a3).trans a5, (b2 47 (by omega) (by omega) n1 a3).trans a6, ?_⟩, b6⟩, a9.tr b7⟩
          have g : ∀ f, f = 2 ∨ f = 9 ∨ f = 13 → q.2 f = q1.2 f := fun f hf => (b1 f (by omega) (by omega) (by omega) (by omega)).trans (a1 f (by omega) (by omega) (by omega) (by omega)).symm
          exact is_kp (g 2 (by omega)) (g 9 (by omega)) (g 13 (by omega)) d u' n1 q1.1 a7 b2
    have PR : ∀ (k : Nat) (p : Int32) (m : Nat), (∀ j, j < m → dp (pt tt j) ≤ d ∧ R (pt tt j) (pt uu j)) → ∀ (r j n1 : Nat) (B1 : Nat → Nat → Int32) (q : Nat × (Nat → Nat → Int32)), r + j = m → mo_sc B0 B1 → n1 ≤ 200 → RP B1 n1 → rs_ch (fun j n1 B => rd_i (B0 4) ct i d (pt tt j) (pt uu j) (p + B0 9 (6 * tt + j)) (nI k) (B0 9 (6 * uu + j)) n1 B) r j n1 B1 = .inr q → TC i B0 B1 n1 q (fun B' j a b => B' 46 a = nI k ∧ B' 47 a = B' 9 (6 * uu + j) ∧ is_t B' i ct pt sz d (pt uu j) a b) r j := by
      intro k p m hm r
      induction r with
      | zero =>
        intro j n1 B1 q hj s1 s2 s3 h
        rw [rs_ch] at h
        cases h
        exact ⟨s1, kp.rf _ _, Nat.le_refl _, s2, s3, rfl, kpo.e rfl rfl⟩
      | succ r ih =>
        intro j n1 B1 q hj s1 s2 s3 h
        rw [rs_ch] at h
        cases hx : rd_i (B0 4) ct i d (pt tt j) (pt uu j) (p + B0 9 (6 * tt + j)) (nI k) (B0 9 (6 * uu + j)) n1 B1 with
        | inl z => rw [hx] at h; cases h
        | inr q1 =>
          rw [hx] at h
          dsimp only at h
          obtain ⟨h1, h2⟩ := hm j (by omega)
          obtain ⟨a1, a2, a3, a4, a5, a6, a7, a8, a9⟩ := ihd (pt tt j) (pt uu j) _ (nI k) (B0 9 (6 * uu + j)) n1 B1 q1 h1 h2 s1 s2 s3 hx
          obtain ⟨b1, b2, b3, b4, b5, b6, b7⟩ := ih (j + 1) q1.1 q1.2 q (by omega) a1 a4 a8 h
          have e9 : q.2 9 = B0 9 := b1 9 (by omega) (by omega) (by omega) (by omega)
          refine ⟨b1, a2.tr b2 (by omega), by omega, b4, b5, ⟨q1.1, ⟨(b2 46 (by omega) (by omega) n1 a3).trans a5, ?_, ?_⟩, b6⟩, a9.tr b7⟩
          · rw [e9]; exact (b2 47 (by omega) (by omega) n1 a3).trans a6
          · have g : ∀ f, f = 2 ∨ f = 9 ∨ f = 13 → q.2 f = q1.2 f := fun f hf => (b1 f (by omega) (by omega) (by omega) (by omega)).trans (a1 f (by omega) (by omega) (by omega) (by omega)).symm
            exact is_kp (g 2 (by omega)) (g 9 (by omega)) (g 13 (by omega)) d (pt uu j) n1 q1.1 a7 b2
    have LF : ∀ B1 : Nat → Nat → Int32, kpo i B B1 → n < 200 → mo_sc B B1 → kp n B B1 → B1 44 n = nI uu → B1 46 n = ab → B1 47 n = inn → ¬ B0 2 uu = 8 → ¬ B0 2 uu = 9 → ¬ B0 2 uu = 10 → RP B1 (n + 1) → TR B0 B i ct pt sz (d + 1) uu n ab inn (n + 1, B1) := by
      intro B1 lx l0 l1 l2 l3 l4 l5 l6 l7 l8 l9
      have f2 : B1 2 = B0 2 := (l1 2 (by decide) (by decide) (by decide) (by decide)).trans e2
      refine ⟨hsc.tr l1, l2, Nat.lt_succ_self n, l0, l4, l5, ⟨l3, l0, Or.inr (Or.inr (Or.inr ⟨?_, ?_, ?_, rfl⟩))⟩, l9, lx⟩
      · dsimp only; rw [f2]; exact l6
      · dsimp only; rw [f2]; exact l7
      · dsimp only; rw [f2]; exact l8
    by_cases h200 : n = 200
    · rw [rd_l (ri_200 h200)] at h; cases h
    have hn2 : n < 200 := by omega
    by_cases h2n : ¬ p - p / B 5 tt * B 5 tt = 0
    · rw [rd_l (ri_al h200 h2n)] at h; cases h
    have h2 : p - p / B 5 tt * B 5 tt = 0 := Decidable.of_not_not h2n
    by_cases k6 : B 2 tt = 6
    · cases hh : ri_h p with
      | some z => rw [rd_l (ri_6a h200 h2 k6 hh)] at h; cases h
      | none =>
        cases hx : tx_r (B 13) i (mo_nb (B 13) i p 2).toNatClampNeg (mo_nb (B 13) i (p + 2) 2).toNatClampNeg ((mo_nb (B 13) i (p + 2) 2).toNatClampNeg + 1) 0 with
        | some z => rw [rd_l (ri_6b h200 h2 k6 hh hx)] at h; cases h
        | none =>
          rw [rd_0 (ri_6c h200 h2 k6 hh hx)] at h
          cases h
          have ku : B0 2 uu = 6 := by rw [← hal.1, ← e2]; exact k6
          exact LF _ (kpo.e (rB1_k (by omega)) (rB1_k (by omega))) hn2 rB1_sc rB1_kp rB1_44 rB1_46 rB1_47 (by rw [ku]; decide) (by rw [ku]; decide) (by rw [ku]; decide) (hRP.n (rB1_k (by omega)) (rB1_k (by omega)) rB1_kp rB1_44 (by omega) (by rw [e2, ku]; decide))
    by_cases k8 : B 2 tt = 8
    · cases hh : ri_h p with
      | some z => rw [rd_l (ri_8a h200 h2 k8 hh)] at h; cases h
      | none =>
        have k80 : B0 2 tt = 8 := by rw [← e2]; exact k8
        have hc1 := (hD tt ht).2.1 k80
        have hc2 := (hD uu hu).2.1 (hal.1.symm.trans k80)
        obtain ⟨-, hpt, hpd⟩ := hW.2.2 tt 0 ht (by omega)
        have hp0 := hparts 0 (by unfold ty_sh; split <;> omega)
        have hr : mo_rg p 4 = none := by rw [← rg_4]; exact hh
        have hr2 : mo_rg p 2 = none := mo_rg_le 2 hr
        obtain ⟨-, -, q3, q4⟩ := by_4 h8 hi hr
        have nb1 : mo_nb (B 13) i p 2 = nI (by_w B0 i p 2) := by rw [e13]; exact by_nb h8 hi 2 (by omega) hr2
        have nb2 : mo_nb (B 13) i (p + 2) 2 = nI (by_w B0 i (p + 2) 2) := by rw [e13]; exact by_nb h8 hi 2 (by omega) ((rg_2 hr2 2).symm.trans hr)
        rw [rd_8 hW hsc h200 h2 k8 hh ht hu (by omega) (by omega) (hS _ hpt).1 nb1 nb2 (by omega)] at h
        have ku : B0 2 uu = 8 := by rw [← hal.1]; exact k80
        have h0 : (0 : Int32) = nI (0 * sz (pt uu 0)) := by rw [Nat.zero_mul]; rfl
        rw [h0] at h
        obtain ⟨b1, b2, b3, b4, b5, b6, b7⟩ := PM (pt tt 0) (pt uu 0) n (by omega) hp0 _ 0 _ (n + 1) _ q (hsc.tr rB1_sc) (by omega) (hRP.n (rB1_k (by omega)) (rB1_k (by omega)) rB1_kp rB1_44 (by omega) (by rw [e2, ku]; decide)) h
        have f2 : q.2 2 = B0 2 := b1 2 (by decide) (by decide) (by decide) (by decide)
        refine ⟨b1, rB1_kp.tr b2 (by omega), by omega, b4, (b2 46 (by omega) (by omega) n (by omega)).trans rB1_46, (b2 47 (by omega) (by omega) n (by omega)).trans rB1_47, ⟨(b2 44 (by omega) (by omega) n (by omega)).trans rB1_44, hn2, Or.inl ⟨by rw [f2]; exact ku, by_w B0 i (p + 2) 2, by omega, ?_, b6⟩⟩, b5, (kpo.e (rB1_k (by omega)) (rB1_k (by omega))).tr b7⟩
        rw [(b2 49 (by omega) (by omega) n (by omega)), rB1_49, nb2]
    by_cases k9 : B 2 tt = 9
    · have k90 : B0 2 tt = 9 := by rw [← e2]; exact k9
      have ku : B0 2 uu = 9 := by rw [← hal.1]; exact k90
      have hcu : ct uu ≤ ct tt := n_nlt (ct tt) (ct uu) (by have := hal.2.2.2.1 k90; rw [e7t, e7u] at this; exact this)
      have esh : ty_sh ct tt uu = ct uu := by rw [ty_sh, if_pos hcu]
      rw [rd_9 hW hsc h200 h2 k9 ht hu hcu] at h
      obtain ⟨b1, b2, b3, b4, b5, b6, b7⟩ := PR n p (ct uu) (fun j hj => ⟨by have := (hW.2.2 tt j ht (by omega)).2.2; omega, hparts j (by omega)⟩) (ct uu) 0 (n + 1) _ q (by omega) (hsc.tr (ri_B0_sc B n uu p ab inn)) (by omega) (hRP.n (rB0_k (by omega)) (rB0_k (by omega)) rB0_kp rB0_44 (by omega) (by rw [e2, ku]; decide)) h
      have f2 : q.2 2 = B0 2 := b1 2 (by decide) (by decide) (by decide) (by decide)
      exact ⟨b1, rB0_kp.tr b2 (by omega), by omega, b4, (b2 46 (by omega) (by omega) n (by omega)).trans rB0_46, (b2 47 (by omega) (by omega) n (by omega)).trans rB0_47, ⟨(b2 44 (by omega) (by omega) n (by omega)).trans rB0_44, hn2, Or.inr (Or.inl ⟨by rw [f2]; exact ku, b6⟩)⟩, b5, (kpo.e (rB0_k (by omega)) (rB0_k (by omega))).tr b7⟩
    by_cases k10 : B 2 tt = 10
    · have k100 : B0 2 tt = 10 := by rw [← e2]; exact k10
      have ku : B0 2 uu = 10 := by rw [← hal.1]; exact k100
      have hcu : ct tt ≤ ct uu := n_nlt (ct uu) (ct tt) (by have := hal.2.2.2.2 k100; rw [e7t, e7u] at this; exact this)
      have esh : ty_sh ct tt uu = ct tt := by unfold ty_sh; split <;> omega
      by_cases gp : p < 0 ∨ 255 < p
      · rw [rd_l (r := (1, p)) (by rw [ri_10 h200 h2 k10, if_pos gp])] at h; cases h
      have hX := bb_p h8 hi gp
      have hX2 : B 13 (256 * nI i + p).toNatClampNeg = nI (bb B0 i p) := by rw [e13]; exact hX.2
      by_cases hlt : bb B0 i p < ct tt
      · rw [rd_10 hW hsc h200 h2 k10 ht hu hcu gp hX2 hX.1 hlt] at h
        obtain ⟨a, ha, ea⟩ := n_pl1 (p := p) ⟨fun z => gp (Or.inl z), fun z => gp (Or.inr (Int32.lt_of_lt_of_le (by decide) z))⟩
        obtain ⟨-, -, hpd⟩ := hW.2.2 tt (bb B0 i p) ht hlt
        obtain ⟨a1, a2, a3, a4, a5, a6, a7, a8, a9⟩ := ihd _ _ _ _ _ (n + 1) _ q (by omega) (hparts _ (by omega)) (hsc.tr (ri_B0_sc B n uu p ab inn)) (by omega) (hRP.n (rB0_k (by omega)) (rB0_k (by omega)) rB0_kp rB0_44 (by omega) (by rw [e2, ku]; decide)) h
        have f2 : q.2 2 = B0 2 := a1 2 (by decide) (by decide) (by decide) (by decide)
        have f9 : q.2 9 = B0 9 := a1 9 (by decide) (by decide) (by decide) (by decide)
        have f13 : q.2 13 = B0 13 := a1 13 (by decide) (by decide) (by decide) (by decide)
        refine ⟨a1, rB0_kp.tr a2 (by omega), by omega, a4, (a2 46 (by omega) (by omega) n (by omega)).trans rB0_46, (a2 47 (by omega) (by omega) n (by omega)).trans rB0_47, ⟨(a2 44 (by omega) (by omega) n (by omega)).trans rB0_44, hn2, Or.inr (Or.inr (Or.inl ⟨by rw [f2]; exact ku, bb B0 i p, a, by omega, ha, ?_, ?_, a5, by rw [f9]; exact a6, a7⟩))⟩, a8, (kpo.e (rB0_k (by omega)) (rB0_k (by omega))).tr a9⟩
        · rw [(a2 45 (by omega) (by omega) n (by omega)), rB0_45]; exact ea
        · rw [f13]
          have := hX.2
          rw [ea, n_ia hi ha] at this
          rw [ea]
          exact this
      · rw [rd_l (r := (2, p)) (by rw [ri_10 h200 h2 k10, if_neg gp, hX2, show B 7 = B0 7 from hsc 7 (by decide) (by decide) (by decide) (by decide), e7t, if_pos (fun w => hlt (n_lt _ _ w (ha := by omega)))])] at h
        cases h
    by_cases k11 : B 2 tt ≤ 10
    · have ri := ri_0 (ct := ct) (ii := i) (uu := uu) (ab := ab) (inn := inn) h200 h2 k6 k8 k9 k10 k11
      have ku : B0 2 uu = B 2 tt := by rw [← hal.1, ← e2]
      cases hx : mo_rp B i tt p with
      | some z => rw [hx] at ri; rw [rd_l ri] at h; cases h
      | none =>
        rw [hx] at ri
        rw [rd_0 ri] at h
        cases h
        exact LF _ (kpo.e (rB0_k (by omega)) (rB0_k (by omega))) hn2 (ri_B0_sc B n uu p ab inn) rB0_kp rB0_44 rB0_46 rB0_47 (by rw [ku]; exact k8) (by rw [ku]; exact k9) (by rw [ku]; exact k10) (hRP.n (rB0_k (by omega)) (rB0_k (by omega)) rB0_kp rB0_44 (by omega) (by rw [e2, ku]; exact fun z => absurd k11 (by rw [z]; decide)))
    · have ri := ri_11 (ct := ct) (ii := i) (uu := uu) (ab := ab) (inn := inn) h200 h2 k11
      have ku : B0 2 uu = B 2 tt := by rw [← hal.1, ← e2]
      cases hx : (mo_rh (ri_B0 B n uu p ab inn) i tt p n).1 with
      | some z => rw [hx] at ri; rw [rd_l ri] at h; cases h
      | none =>
        rw [hx] at ri
        rw [rd_0 ri] at h
        cases h
        obtain ⟨y9, y1, z3, z4⟩ := mo_rh_it hi hx
        have zsc : mo_sc (ri_B0 B n uu p ab inn) (mo_rh (ri_B0 B n uu p ab inn) i tt p n).2 := fun k z1 z2 z5 z6 => z4 k (by omega) z1 z2
        have zkp : kp n B (mo_rh (ri_B0 B n uu p ab inn) i tt p n).2 := kp.tr rB0_kp (fun f f1 f2 k hk => by
          by_cases e : f = 48
          · subst e; rw [z3, upd_ne (by omega)]
          · rw [z4 f e (by omega) (by omega)]) (Nat.le_refl n)
        refine LF _ ((kpo.e (rB0_k (by omega)) (rB0_k (by omega))).tr (kpo_h hi (fun j hj => by rw [rB0_k (by omega), e13]; exact h8 j hj))) hn2 ((ri_B0_sc B n uu p ab inn).tr zsc) zkp (by rw [z4 44 (by decide) (by decide) (by decide)]; exact rB0_44) (by rw [z4 46 (by decide) (by decide) (by decide)]; exact rB0_46) (by rw [z4 47 (by decide) (by decide) (by decide)]; exact rB0_47) (by rw [ku]; exact k8) (by rw [ku]; exact k9) (by rw [ku]; exact k10) ?_
        exact rp_h hi (show mo_b8 B from fun j hj => by rw [e13]; exact h8 j hj) hRP hx (by omega) ht hu hNT (by rw [e2]; exact hal.1)
