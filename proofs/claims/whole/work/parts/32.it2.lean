/-- what one item is like, and what waits behind it -/
def ri_ok (B : Nat → Nat → Int32) (NT : Nat) (sz : Nat → Nat) (nn uu : Nat) (q : (Nat → Nat → Int32) × Nat × (Nat → ri_E)) : Prop :=
  it_ku q.1 NT sz nn uu ∧ kp nn B q.1 ∧ ∀ j, j < q.2.1 → ∃ u' m i, (q.2.2 j).2.1 = nI u' ∧ (q.2.2 j).2.2.1 = nI (m + 1) ∧ (q.2.2 j).2.2.2.2.1 = nI nn ∧ (q.2.2 j).2.2.2.2.2 = nI i ∧ m ≤ 65535 ∧ u' < NT ∧ ∀ r, r ≤ m → ps_ok q.1 NT sz nn u' (i + r * sz u')
theorem mo_rh_it {B : Nat → Nat → Int32} {ii tt it : Nat} {p : Int32} (hii : ii < 6) (h : (mo_rh B ii tt p it).1 = none) : ∃ y, y < 102 ∧ (mo_rh B ii tt p it).2 48 = upd (B 48) it (nI y) ∧ ∀ k, k ≠ 48 → k ≠ 20 → k ≠ 21 → (mo_rh B ii tt p it).2 k = B k := by
  unfold mo_rh at h ⊢
  split at h
  · cases h
  rename_i h1
  rw [if_neg h1]
  split at h
  · cases h
  rename_i h2
  rw [if_neg h2]
  obtain ⟨g1, g2, -, -⟩ := Classical.not_not.mp h2
  obtain ⟨b, hb1, hb2, eb⟩ := n_rng g1 g2
  have ec : (B 13 (256 * nI ii + p).toNatClampNeg).toNatClampNeg = b := by rw [eb, nI_clamp (by omega)]
  rw [ec] at h ⊢
  split at h
  · cases h
  rename_i h3
  rw [if_neg h3]
  split at h
  · rename_i h4
    rw [if_pos h4]
    refine ⟨17 * ii + b, by omega, rfl, fun k k1 k2 k3 => ?_⟩
    exact (va_up_ne _ _ k3).trans (va_up_ne _ _ k1)
  rename_i h4
  rw [if_neg h4]
  split at h
  · cases h
  rename_i h5
  rw [if_neg h5]
  split at h
  · cases h
  rename_i h6
  rw [if_neg h6]
  refine ⟨17 * ii + b, by omega, rfl, fun k k1 k2 k3 => ?_⟩
  exact (va_up_ne _ _ k2).trans (va_up_ne _ _ k1)
theorem ri_it {B : Nat → Nat → Int32} {NT : Nat} {ct dp sz al : Nat → Nat} {pt : Nat → Nat → Nat} {R : Nat → Nat → Prop} (hW : ty_wf B NT ct dp pt) (hD : ty_rd B NT ct) (hR : ty_ft B ct pt R) (hS : ty_sz B NT ct pt sz al) (h8 : mo_b8 B) {ii tt uu : Nat} (hii : ii < 6) (ht : tt < NT) (hu : uu < NT) (hf : R tt uu) {p ab inn : Int32} {nn : Nat} {q : (Nat → Nat → Int32) × Nat × (Nat → ri_E)} (h : ri_1 B ct ii tt uu p ab inn nn = .inr q)
    (hpos : (nn = 0 ∧ ab = -1) ∨ ∃ a i, a < nn ∧ ab = nI a ∧ inn = nI i ∧ ps_ok B NT sz a uu i) : ri_ok B NT sz nn uu q := by
  obtain ⟨hal, hpt⟩ := hR tt uu hf
  have hk2 := hal.1
  have hcu : ty_sh ct tt uu ≤ ct uu := by unfold ty_sh; split <;> omega
  have hct : ty_sh ct tt uu ≤ ct tt := by unfold ty_sh; split <;> omega
  have B1e : ∀ k, k ≠ nn → ri_B1 B ii nn uu p ab inn 48 k = B 48 k ∧ ri_B1 B ii nn uu p ab inn 49 k = B 49 k := fun k hk => ⟨upd_ne hk, upd_ne hk⟩
  have part : ∀ k, k < ty_sh ct tt uu → (B 2 uu = 9 ∨ B 2 uu = 10) → ∃ u' m i, (ri_e B tt uu p nn k).2.1 = nI u' ∧ (ri_e B tt uu p nn k).2.2.1 = nI (m + 1) ∧ (ri_e B tt uu p nn k).2.2.2.2.1 = nI nn ∧ (ri_e B tt uu p nn k).2.2.2.2.2 = nI i ∧ m ≤ 65535 ∧ u' < NT ∧ ∀ r, r ≤ m → ps_ok (ri_B0 B nn uu p ab inn) NT sz nn u' (i + r * sz u') := by
    intro k hk h9
    obtain ⟨q1, q2, q3⟩ := hW.2.2 uu k hu (by omega)
    obtain ⟨off, o1, o2⟩ := (hS.1 uu hu).2.2.2.2.2.2.2.2 h9 k (by omega)
    refine ⟨pt uu k, 0, off, q1, rfl, rfl, o1, by omega, q2, fun r hr => ⟨uu, upd_eq, hu, Or.inr ⟨?_, ?_⟩⟩⟩
    · show ¬ B 2 uu = 8
      rcases h9 with z | z <;> rw [z] <;> decide
    · obtain rfl : r = 0 := by omega
      omega
  unfold ri_1 at h
  split at h
  · cases h
  split at h
  · cases h
  split at h
  · rename_i k6
    cases hh : ri_h p with
    | some z => rw [hh] at h; cases h
    | none =>
      rw [hh] at h
      dsimp only at h
      obtain ⟨g1, g2⟩ : mo_rg p 2 = none ∧ mo_rg (p + 2) 2 = none := by
        unfold ri_h at hh
        split at hh
        · cases hh
        · rename_i g; exact ⟨g, hh⟩
      obtain ⟨fr, f1, f2⟩ := mo_nb2 h8 hii g1
      obtain ⟨mn, m1, m2⟩ := mo_nb2 h8 hii g2
      split at h
      · cases h
      · rename_i hx
        cases h
        rw [f2, m2, nI_clamp (by omega), nI_clamp (by omega)] at hx
        obtain ⟨a1, a2⟩ := it_mk (B := B) (Bq := ri_B1 B ii nn uu p ab inn) (sz := sz) rfl rfl rfl rfl (fun k hk => (B1e k hk).1) (fun k hk => (B1e k hk).2) rfl rfl hu hpos ⟨fun _ => ⟨mn, m1, (show upd (B 49) nn (mo_nb (B 13) ii (p + 2) 2) nn = nI mn by rw [upd_eq, m2])⟩, fun _ => ⟨fr, mn, f1, m1, (show upd (B 48) nn (mo_nb (B 13) ii p 2) nn = nI fr by rw [upd_eq, f2]), (show upd (B 49) nn (mo_nb (B 13) ii (p + 2) 2) nn = nI mn by rw [upd_eq, m2]), by rcases tx_r_in (mn + 1) 0 (by omega) (by omega) hx with e | e <;> omega⟩, fun z => absurd (show B 2 uu ≤ 10 by rw [← hk2, k6]; decide) z, fun z => absurd (hk2.symm.trans k6) z⟩
        exact ⟨a1, a2, fun j hj => absurd hj (Nat.not_lt_zero j)⟩
  rename_i k6
  split at h
  · rename_i k8
    cases hh : ri_h p with
    | some z => rw [hh] at h; cases h
    | none =>
      rw [hh] at h
      dsimp only at h
      obtain ⟨g1, g2⟩ : mo_rg p 2 = none ∧ mo_rg (p + 2) 2 = none := by
        unfold ri_h at hh
        split at hh
        · cases hh
        · rename_i g; exact ⟨g, hh⟩
      obtain ⟨fr, f1, f2⟩ := mo_nb2 h8 hii g1
      obtain ⟨mn, m1, m2⟩ := mo_nb2 h8 hii g2
      obtain ⟨a1, a2⟩ := it_mk (B := B) (Bq := ri_B1 B ii nn uu p ab inn) (sz := sz) rfl rfl rfl rfl (fun k hk => (B1e k hk).1) (fun k hk => (B1e k hk).2) rfl rfl hu hpos ⟨fun _ => ⟨mn, m1, (show upd (B 49) nn (mo_nb (B 13) ii (p + 2) 2) nn = nI mn by rw [upd_eq, m2])⟩, fun z => absurd (hk2.trans z) k6, fun z => absurd (show B 2 uu ≤ 10 by rw [← hk2, k8]; decide) z, fun _ z => absurd (hk2.symm.trans k8) z⟩
      split at h
      · cases h
        exact ⟨a1, a2, fun j hj => absurd hj (Nat.not_lt_zero j)⟩
      · rename_i hx
        cases h
        have hm0 : mn ≠ 0 := fun z => hx (by rw [m2, z]; decide)
        refine ⟨a1, a2, fun j hj => ?_⟩
        have hc1 : ct uu = 1 := (hD uu hu).2.1 (hk2.symm.trans k8)
        obtain ⟨q1, q2, q3⟩ := hW.2.2 uu 0 hu (by omega)
        refine ⟨pt uu 0, mn - 1, 0, q1, ?_, rfl, rfl, by omega, q2, fun r hr => ⟨uu, upd_eq, hu, Or.inl ⟨hk2.symm.trans k8, mn, m1, (show upd (B 49) nn (mo_nb (B 13) ii (p + 2) 2) nn = nI mn by rw [upd_eq, m2]), q1, ?_⟩⟩⟩
        · show mo_nb (B 13) ii (p + 2) 2 = nI (mn - 1 + 1)
          rw [m2, show mn - 1 + 1 = mn by omega]
        · have : (r + 1) * sz (pt uu 0) ≤ mn * sz (pt uu 0) := Nat.mul_le_mul_right _ (by omega)
          rw [Nat.succ_mul] at this
          omega
  rename_i k8
  split at h
  · rename_i k9
    cases h
    have u9 : B 2 uu = 9 := hk2.symm.trans k9
    obtain ⟨a1, a2⟩ := it_mk (B := B) (Bq := ri_B0 B nn uu p ab inn) (sz := sz) rfl rfl rfl rfl (fun k hk => rfl) (fun k hk => rfl) rfl rfl hu hpos (it_cn u9)
    exact ⟨a1, a2, fun j hj => part _ (show ty_sh ct tt uu - 1 - j < ty_sh ct tt uu by have : j < ty_sh ct tt uu := hj; omega) (Or.inl u9)⟩
  rename_i k9
  split at h
  · rename_i k10
    have u10 : B 2 uu = 10 := hk2.symm.trans k10
    split at h
    · cases h
    rename_i g
    split at h
    · cases h
    rename_i g3
    cases h
    obtain ⟨pp, hp1, hp2⟩ := n_r255 (fun z => g (Or.inl z)) (Int32.not_lt.mp (fun z => g (Or.inr z)))
    obtain ⟨b, hb, eb⟩ := mo_b8_at h8 hii g
    obtain ⟨a1, a2⟩ := it_mk (B := B) (Bq := ri_B0 B nn uu p ab inn) (sz := sz) rfl rfl rfl rfl (fun k hk => rfl) (fun k hk => rfl) rfl rfl hu hpos ⟨fun z => (by rcases z with z | z <;> exact absurd (u10.symm.trans z) (by decide)), fun z => absurd (u10.symm.trans z) (by decide), fun z => absurd (show B 2 uu ≤ 10 by rw [u10]; decide) z, fun _ _ _ _ => ⟨pp, (show upd (B 45) nn p nn = nI pp by rw [upd_eq, hp2]), by rw [if_pos (show ri_B0 B nn uu p ab inn 2 uu = 10 from u10)]; omega⟩⟩
    refine ⟨a1, a2, fun j hj => part _ ?_ (Or.inr u10)⟩
    show (B 13 (256 * nI ii + p).toNatClampNeg).toNatClampNeg < ty_sh ct tt uu
    have hlt := Classical.not_not.mp g3
    have ht32 := hW.1
    obtain ⟨ht1, ht2, -, -⟩ := hW.2.1 tt ht
    obtain ⟨hu1, hu2, -, -⟩ := hW.2.1 uu hu
    rw [eb, ht1] at hlt
    have hlt2 := n_lt b (ct tt) hlt
    have h10 := hal.2.2.2.2 k10
    rw [ht1, hu1] at h10
    have h10b := n_nlt (ct uu) (ct tt) h10
    rw [eb, nI_clamp (by omega)]
    unfold ty_sh; split <;> omega
  rename_i k10
  split at h
  · rename_i k11
    cases hx : (mo_rh (ri_B0 B nn uu p ab inn) ii tt p nn).1 with
    | some r => rw [hx] at h; cases h
    | none =>
      rw [hx] at h
      cases h
      obtain ⟨y, hy, ey, hk⟩ := mo_rh_it hii hx
      obtain ⟨a1, a2⟩ := it_mk (B := B) (Bq := (mo_rh (ri_B0 B nn uu p ab inn) ii tt p nn).2) (sz := sz) ((hk 44 (by decide) (by decide) (by decide)).trans rfl) ((hk 45 (by decide) (by decide) (by decide)).trans rfl) ((hk 46 (by decide) (by decide) (by decide)).trans rfl) ((hk 47 (by decide) (by decide) (by decide)).trans rfl) (fun k h1 => by rw [ey, upd_ne h1]; rfl) (fun k h1 => by rw [hk 49 (by decide) (by decide) (by decide)]; rfl) ((hk 2 (by decide) (by decide) (by decide)).trans rfl) ((hk 8 (by decide) (by decide) (by decide)).trans rfl) hu hpos (by
        unfold it_c
        rw [hk 2 (by decide) (by decide) (by decide), ey, upd_eq]
        refine ⟨?_, ?_, fun _ => vp_in_nI hy (by decide), ?_⟩
        · rintro (z | z)
          · exact absurd (hk2.trans z) k6
          · exact absurd (hk2.trans z) k8
        · intro z; exact absurd (hk2.trans z) k6
        · intro _ _ z; exact absurd (show B 2 tt ≤ 10 by rw [hk2]; exact z) k11)
      exact ⟨a1, a2, fun j hj => absurd hj (Nat.not_lt_zero j)⟩
  · rename_i k11
    cases hx : mo_rp B ii tt p with
    | some r => rw [hx] at h; cases h
    | none =>
      rw [hx] at h
      cases h
      obtain ⟨s, s1, s2, s3, -⟩ := (hD tt ht).2.2 k6 k8 k9 k10 (Classical.not_not.mp k11)
      have hrg : mo_rg p s = none := by
        unfold mo_rp at hx
        rw [s1, nI_clamp (by omega)] at hx
        split at hx
        · cases hx
        · rename_i g; exact g
      obtain ⟨s0, rfl⟩ : ∃ s0, s = s0 + 1 := ⟨s - 1, by omega⟩
      obtain ⟨pp, hp1, hp2⟩ := mo_rg_in s0 (by omega) hrg
      have hst : sz tt = s0 + 1 := n_eq (sz tt) (s0 + 1) ((hS.1 tt ht).1.symm.trans s1) rfl rfl (by have := (hS.1 tt ht).2.1; omega) (by omega)
      have hsu : sz tt = sz uu := hS.2 tt uu ht hu hk2 k9 k10
      obtain ⟨a1, a2⟩ := it_mk (B := B) (Bq := ri_B0 B nn uu p ab inn) (sz := sz) rfl rfl rfl rfl (fun k hk => rfl) (fun k hk => rfl) rfl rfl hu hpos ⟨fun z => (by rcases z with z | z; exact absurd (hk2.trans z) k6; exact absurd (hk2.trans z) k8), fun z => absurd (hk2.trans z) k6, fun z => absurd (show B 2 uu ≤ 10 by rw [← hk2]; exact Classical.not_not.mp k11) z, fun _ _ _ _ => ⟨pp, (show upd (B 45) nn p nn = nI pp by rw [upd_eq, hp1]), by rw [if_neg (show ¬ ri_B0 B nn uu p ab inn 2 uu = 10 from fun z => k10 (hk2.trans z))]; omega⟩⟩
      exact ⟨a1, a2, fun j hj => absurd hj (Nat.not_lt_zero j)⟩
