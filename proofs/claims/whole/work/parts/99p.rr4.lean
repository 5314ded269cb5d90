/-! resources: calls keep the relation -/
section RRm
variable {K : List Nat} {am N hd : Nat → Nat} {S S' : gS} {F F' : Nat → Int32} {B B' : Nat → Nat → Int32} {NT ni nf nd Lv Md : Nat} {ct dp sz al dr hm ar rs ru cf hp : Nat → Nat} {pt : Nat → Nat → Nat}
theorem rM.go {x r : Nat} (h : rM B ni Md Lv ru) (e16 : B' 16 = upd (B 16) x 0) (hB : ∀ f, 17 ≤ f → f ≤ 19 → B' f = B f) (h24 : B' 24 = B 24 ∨ (B' 24 = upd (B 24) (B 17 x).toNatClampNeg 1 ∧ ¬ B 16 x = 0 ∧ ¬ B 18 x = 0 ∧ Md < 2147483648)) (hnl : ∀ y, ¬ B 16 y = 0 → B 18 y = 0 → ¬ B 19 y = nI x) : rM B' ni Md Lv ru := by
  obtain ⟨a1, a2, a3, a4, a5, a6⟩ := h
  have m : ∀ y, ¬ B' 16 y = 0 → y ≠ x ∧ ¬ B 16 y = 0 := fun y hy => by
    rw [e16] at hy
    by_cases e : y = x
    · rw [e, upd_eq] at hy; exact absurd rfl hy
    · rw [upd_ne e] at hy; exact ⟨e, hy⟩
  have e17 := hB 17 (by omega) (by omega)
  have e18 := hB 18 (by omega) (by omega)
  have e19 := hB 19 (by omega) (by omega)
  refine ⟨fun y hy => a1 y (m y hy).2, fun y hy => by rw [e17]; exact a2 y (m y hy).2, by rw [e18]; exact a3, fun y hy hy2 => ?_, fun y z hy hy2 hz hz2 e => ?_, fun y hy hy2 => ?_⟩
  · rw [e18] at hy2
    rw [e17]
    have h0 := a4 y (m y hy).2 hy2
    rcases h24 with h24 | ⟨h24, hx1, hx2, hm⟩
    · rw [h24]; exact h0
    · rw [h24, upd_ne]
      · exact h0
      · intro z
        obtain ⟨r1, p1, p2⟩ := a2 y (m y hy).2
        obtain ⟨r2, q1, q2⟩ := a2 x hx1
        rw [p2, q2, nI_clamp (by omega), nI_clamp (by omega)] at z
        exact (m y hy).1 (a5 y x (m y hy).2 hy2 hx1 hx2 (by rw [p2, q2, z]))
  · rw [e18] at hy2 hz2
    rw [e17] at e
    exact a5 y z (m y hy).2 hy2 (m z hz).2 hz2 e
  · rw [e18] at hy2
    obtain ⟨k, h, h', k1, k2, h1, ex, h2, e9, hu⟩ := a6 y (m y hy).2 hy2
    refine ⟨k, h, h', k1, k2, h1, ex, h2, by rw [e19]; exact e9, ?_⟩
    rw [e16, upd_ne]
    · exact hu
    · intro z
      exact hnl y (m y hy).2 hy2 (by rw [e9, z])
/-- a resource is destroyed -/
theorem rs_dn {r : Nat} {kd : Int32} (e23 : B' 23 = B 23) (e24 : B' 24 = upd (B 24) r 1) (h23 : B 23 r = kd) (h0 : B 24 r = 0) (k : Int32) : ∀ n, (n ≤ r → mo_rs B' k 0 n = mo_rs B k 0 n ∧ mo_rs B' k 1 n = mo_rs B k 1 n) ∧ (r < n → mo_rs B k 0 n = mo_rs B' k 0 n + (if kd = k then 1 else 0) ∧ mo_rs B' k 1 n = mo_rs B k 1 n + (if kd = k then 1 else 0)) := by
  intro n
  induction n with
  | zero => exact ⟨fun _ => ⟨rfl, rfl⟩, fun h => absurd h (Nat.not_lt_zero r)⟩
  | succ n ih =>
    rw [mo_rs, mo_rs, mo_rs, mo_rs, e23, e24]
    by_cases e : n = r
    · subst e
      obtain ⟨i1, i2⟩ := ih.1 (Nat.le_refl _)
      refine ⟨fun z => by omega, fun _ => ?_⟩
      rw [upd_eq, h23, h0, i1, i2]
      by_cases c : kd = k
      · rw [if_pos c, if_pos ⟨c, rfl⟩, if_neg (show ¬ (kd = k ∧ (1 : Int32) = 0) from fun z => absurd z.2 (by decide)), if_pos (show kd = k ∧ (1 : Int32) = 1 from ⟨c, rfl⟩), if_neg (show ¬ (kd = k ∧ (0 : Int32) = 1) from fun z => absurd z.2 (by decide))]
        exact ⟨rfl, rfl⟩
      · rw [if_neg c, if_neg (show ¬ (kd = k ∧ (0 : Int32) = 0) from fun z => c z.1), if_neg (show ¬ (kd = k ∧ (1 : Int32) = 0) from fun z => c z.1), if_neg (show ¬ (kd = k ∧ (1 : Int32) = 1) from fun z => c z.1), if_neg (show ¬ (kd = k ∧ (0 : Int32) = 1) from fun z => c z.1)]
        exact ⟨rfl, rfl⟩
    · rw [upd_ne e]
      refine ⟨fun z => ?_, fun z => ?_⟩
      · obtain ⟨i1, i2⟩ := ih.1 (by omega)
        rw [i1, i2]; exact ⟨rfl, rfl⟩
      · obtain ⟨i1, i2⟩ := ih.2 (by omega)
        rw [i1, i2]
        constructor
        · split <;> omega
        · split <;> omega
theorem rs_le (k g : Int32) : ∀ n, mo_rs B k g n ≤ n := by
  intro n
  induction n with
  | zero => exact Nat.le_refl _
  | succ n ih => rw [mo_rs]; split <;> omega
theorem rR.go {r kd : Nat} (h : rR S F B Md) (hm : Md < 2147483648) (hr : r < Md) (hk : kd < 4) (h23 : B 23 r = nI kd) (h0 : B 24 r = 0) (h12 : S'.1 0 12 = S.1 0 12) (h8 : S'.2.1 8 = va_up (S.2.1 8) kd (S.2.1 8 kd - 1)) (h9 : S'.2.1 9 = va_up (S.2.1 9) kd (S.2.1 9 kd + 1)) (e23 : B' 23 = B 23) (e24 : B' 24 = upd (B 24) r 1) (hF : F' 22 = F 22) : rR S' F' B' Md := by
  obtain ⟨⟨a1, a2⟩, a3, a4, a5⟩ := h
  refine ⟨⟨hF.trans a1, h12.trans a2⟩, fun r' hr' => ?_, fun r' hr' => ?_, fun k9 hk9 => ?_⟩
  · rw [e23, e24]
    refine ⟨(a3 r' hr').1, ?_⟩
    by_cases e : r' = r
    · rw [e, upd_eq]; exact Or.inr rfl
    · rw [upd_ne e]; exact (a3 r' hr').2
  · rw [e24, upd_ne (by omega)]; exact a4 r' hr'
  · obtain ⟨i1, i2⟩ := (rs_dn e23 e24 h23 h0 (nI k9) Md).2 hr
    have l1 := rs_le (B := B) (nI k9) 0 Md
    obtain ⟨c1, c2⟩ := a5 k9 hk9
    rw [h8, h9, i2]
    by_cases e : k9 = kd
    · subst e
      rw [if_pos rfl] at i1 ⊢
      rw [va_up_self, va_up_self, c1, c2, i1, nI_1]
      exact ⟨by rw [n_s1 (by omega), Nat.add_sub_cancel], rfl⟩
    · rw [if_neg (fun z => e (n_eq kd k9 z).symm)] at i1 ⊢
      rw [va_up_ne _ _ e, va_up_ne _ _ e, c1, c2, i1, Nat.add_zero, Nat.add_zero]
      exact ⟨rfl, rfl⟩
/-- handles behind the end of an owned one -/
theorem HA.go {i h : Nat} (H : HA am hd S B fr0 (lnB B) ni) (hn : ni ≤ 6) (hi : i < ni) (hh : h < 16) (ho : ¬ B 18 (17 * i + h + 1) = 0) (e16 : B' 16 = upd (B 16) (17 * i + h + 1) 0) (hB : ∀ f, 17 ≤ f → f ≤ 23 → B' f = B f) (s3 : S'.1 (203 + 20 * i + h) 3 = .ref (hd 0)) (hG : ∀ a g j, a < ni → g < 16 → ¬ (17 * a + g + 1 = 17 * i + h + 1 ∧ j = 3) → S'.1 (203 + 20 * a + g) j = S.1 (203 + 20 * a + g) j) : HA am hd S' B' fr0 (lnB B') ni := by
  have e17 := hB 17 (by omega) (by omega)
  have e18 := hB 18 (by omega) (by omega)
  have e19 := hB 19 (by omega) (by omega)
  have e20 := hB 20 (by omega) (by omega)
  have e21 := hB 21 (by omega) (by omega)
  have e23 := hB 23 (by omega) (by omega)
  have eln : ∀ x, lnB B' x = lnB B x := fun x => by
    rw [lnB, lnB, e21]
    refine ln_e 102 (fun y _ => ?_)
    rw [e18, e19, e16]
    by_cases e : y = 17 * i + h + 1
    · subst e
      rw [upd_eq]
      exact ⟨fun z => absurd rfl z.1, fun z => absurd z.2.1 ho⟩
    · rw [upd_ne e]
  intro a g ha hg
  obtain ⟨c1, c2, c3⟩ := H a g ha hg
  refine ⟨?_, by rw [hG a g 2 ha hg (by omega), eln]; exact c2, fun q => ?_⟩
  · by_cases e : 17 * a + g + 1 = 17 * i + h + 1
    · obtain ⟨rfl, rfl⟩ := hx_inj hg hh e
      rw [s3, hof, e16, upd_eq, if_pos rfl]
    · rw [hG a g 3 ha hg (by omega), c1]
      unfold hof
      rw [e16, upd_ne e, e18, e20]
  · have e : 17 * a + g + 1 ≠ 17 * i + h + 1 := fun z => q (by rw [e16, z, upd_eq])
    rw [e16, upd_ne e] at q
    rw [hG a g 0 ha hg (by omega), hG a g 1 ha hg (by omega), hG a g 4 ha hg (by omega), e17, e18, e19, e20, e23]
    exact c3 q
theorem hd_S_g {x kd k j : Nat} (h : ¬ (k = x ∧ j = 3)) : (hd_S S hd x kd).1 k j = S.1 k j := by
  show (gsG S x 3 (.ref (hd 0))).1 k j = _
  exact gsG_nj (by omega)
theorem hd_S_a {x kd k : Nat} (h8 : k ≠ 8) (h9 : k ≠ 9) : (hd_S S hd x kd).2.1 k = S.2.1 k := by
  show up2 (up2 S.2.1 8 kd _) 9 kd _ k = _
  rw [up2_ne _ _ h9, up2_ne _ _ h8]
theorem hd_S_8 {x kd : Nat} : (hd_S S hd x kd).2.1 8 = va_up (S.2.1 8) kd (S.2.1 8 kd - 1) := by
  show up2 (up2 S.2.1 8 kd (S.2.1 8 kd - 1)) 9 kd (S.2.1 9 kd + 1) 8 = _
  rw [up2_ne _ _ (by decide), up2_self]
theorem hd_S_9 {x kd : Nat} : (hd_S S hd x kd).2.1 9 = va_up (S.2.1 9) kd (S.2.1 9 kd + 1) := by
  show up2 (up2 S.2.1 8 kd (S.2.1 8 kd - 1)) 9 kd (S.2.1 9 kd + 1) 9 = _
  rw [up2_self, up2_ne _ _ (by decide)]
/-- an owned handle of which nothing is lent goes, and its resource -/
theorem RR.destroy {i h kd : Nat} (H : RR hd K am N S F B NT ni nf nd Lv Md ct dp pt sz al dr hm ar rs ru cf hp) (hm9 : Md < 2147483648) (hi : i < ni) (hh : h < 16) (hu : ¬ B 16 (17 * i + h + 1) = 0) (ho : ¬ B 18 (17 * i + h + 1) = 0) (hnl : ∀ y, ¬ B 16 y = 0 → B 18 y = 0 → ¬ B 19 y = nI (17 * i + h + 1)) (hk : kd < 4) (hkd : B 23 (B 17 (17 * i + h + 1)).toNatClampNeg = nI kd) (e16 : B' 16 = upd (B 16) (17 * i + h + 1) 0) (e24 : B' 24 = upd (B 24) (B 17 (17 * i + h + 1)).toNatClampNeg 1) (hB : ∀ f, f ≠ 16 → f ≠ 24 → B' f = B f) (hF : ∀ f, f = 1 ∨ f = 10 ∨ f = 12 ∨ f = 22 ∨ f = 25 ∨ f = 29 ∨ f = 33 ∨ f = 34 ∨ f = 35 → F' f = F f) : RR hd K am N (hd_S S hd (203 + 20 * i + h) kd) F' B' NT ni nf nd Lv Md ct dp pt sz al dr hm ar rs ru cf hp := by
  obtain ⟨a1, a2, a3, a4, ⟨a5, a6⟩, a7, a8, a9, a10⟩ := H
  have kk := kpK.rf K am N
  have hn6 := a4.1.2.2
  obtain ⟨r, r1, r2⟩ := a6.2.1 _ hu
  rw [r2, nI_clamp (by omega)] at hkd e24
  have r0 := a6.2.2.2.1 _ hu ho
  rw [r2, nI_clamp (by omega)] at r0
  have g : ∀ k j, ¬ (k = 203 + 20 * i + h ∧ j = 3) → (hd_S S hd (203 + 20 * i + h) kd).1 k j = S.1 k j := fun k j => hd_S_g
  exact ⟨a1.tr (fun j _ _ _ _ h11 _ _ => g 0 j (by omega)) (fun j _ => g 10 j (by omega)), a2.tr kk (g 0 1 (by omega)) (fun k j _ _ _ => g k j (by omega)) (fun k _ _ _ => ⟨hd_S_a (by omega) (by omega), rfl⟩) (fun _ _ => rfl) (fun f _ _ => hB f (by omega) (by omega)) (hF 1 (by omega)), a3.tr a2.1 kk (g 0 3 (by omega)) rfl (hB 11 (by omega) (by omega)) (hF 10 (by omega)), a4.tr kk (g 0 5 (by omega)) (fun a j _ _ => g _ j (by omega)) (fun a _ => hd_S_a (by omega) (by omega)) (fun _ _ => ⟨rfl, rfl⟩) (fun f _ _ => hB f (by omega) (by omega)) (hF 12 (by omega)), ⟨⟨a5.1.go hn6 hi hh ho e16 (fun f _ _ => hB f (by omega) (by omega)) (gsG_eq S _ _ _) (fun a b j _ _ hn => g _ j (by omega)), fun x hx => by rw [hB 20 (by omega) (by omega), hB 21 (by omega) (by omega)]; exact a5.2 x hx⟩, a6.go (x := 17 * i + h + 1) (r := r) e16 (fun f _ _ => hB f (by omega) (by omega)) (Or.inr ⟨by rw [r2, nI_clamp (by omega)]; exact e24, hu, ho, hm9⟩) hnl⟩, a7.go hm9 r1 hk hkd r0 (g 0 12 (by omega)) hd_S_8 hd_S_9 (hB 23 (by omega) (by omega)) e24 (hF 22 (by omega)), a8.tr a2.1 kk (g 0 7 (by omega)) (fun f j _ => g _ j (by omega)) (fun _ _ => rfl) (hB 2 (by omega) (by omega)) (fun f _ _ => hB f (by omega) (by omega)) (hF 25 (by omega)), a9.tr (g 0 11 (by omega)) (fun k _ _ => hd_S_a (by omega) (by omega)) (hB 15 (by omega) (by omega)) (fun f _ _ => hB f (by omega) (by omega)) (hF 29 (by omega)), a10.tr (g 14 0 (by omega)) (g 14 1 (by omega)) (g 0 17 (by omega)) ⟨hF 33 (by omega), hF 34 (by omega), hF 35 (by omega)⟩⟩
/-- a lent handle of which nothing is lent goes -/
theorem RR.unlend {i h i' h' : Nat} (H : RR hd K am N S F B NT ni nf nd Lv Md ct dp pt sz al dr hm ar rs ru cf hp) (hi : i < ni) (hh : h < 16) (hi' : i' < ni) (hh' : h' < 16) (hu : ¬ B 16 (17 * i + h + 1) = 0) (ho : B 18 (17 * i + h + 1) = 0) (hl : B 19 (17 * i + h + 1) = nI (17 * i' + h' + 1)) (hnl : ∀ y, ¬ B 16 y = 0 → B 18 y = 0 → ¬ B 19 y = nI (17 * i + h + 1)) (e16 : B' 16 = upd (B 16) (17 * i + h + 1) 0) (hB : ∀ f, f ≠ 16 → B' f = B f) (hF : ∀ f, f = 1 ∨ f = 10 ∨ f = 12 ∨ f = 22 ∨ f = 25 ∨ f = 29 ∨ f = 33 ∨ f = 34 ∨ f = 35 → F' f = F f) : RR hd K am N (gsG (hl_e0 S hd (203 + 20 * i + h)) (203 + 20 * i' + h') 2 (.int (lnB B (17 * i' + h' + 1) - 1))) F' B' NT ni nf nd Lv Md ct dp pt sz al dr hm ar rs ru cf hp := by
  obtain ⟨a1, a2, a3, a4, ⟨a5, a6⟩, a7, a8, a9, a10⟩ := H
  have kk := kpK.rf K am N
  have hn6 := a4.1.2.2
  have g : ∀ k j, ¬ (k = 203 + 20 * i + h) → ¬ (k = 203 + 20 * i' + h') → (gsG (hl_e0 S hd (203 + 20 * i + h)) (203 + 20 * i' + h') 2 (.int (lnB B (17 * i' + h' + 1) - 1))).1 k j = S.1 k j := fun k j h1 h2 => by rw [hl_e0, gsG_nj (Or.inl h2), gsG_nj (Or.inl h1)]
  exact ⟨a1.tr (fun j _ _ _ _ h11 _ _ => g 0 j (by omega) (by omega)) (fun j _ => g 10 j (by omega) (by omega)), a2.tr kk (g 0 1 (by omega) (by omega)) (fun k j _ _ _ => g k j (by omega) (by omega)) (fun k _ _ _ => ⟨rfl, rfl⟩) (fun _ _ => rfl) (fun f _ _ => hB f (by omega)) (hF 1 (by omega)), a3.tr a2.1 kk (g 0 3 (by omega) (by omega)) rfl (hB 11 (by omega)) (hF 10 (by omega)), a4.tr kk (g 0 5 (by omega) (by omega)) (fun a j _ _ => g _ j (by omega) (by omega)) (fun a _ => rfl) (fun _ _ => ⟨rfl, rfl⟩) (fun f _ _ => hB f (by omega)) (hF 12 (by omega)), ⟨⟨a5.1.el hn6 hi hh hi' hh' hu ho hl (fun x hx => by rw [e16, upd_ne hx]) (by rw [e16, upd_eq]) (fun f hf => hB f (by omega)), fun x hx => by rw [hB 20 (by omega), hB 21 (by omega)]; exact a5.2 x hx⟩, a6.go (x := 17 * i + h + 1) (r := 0) e16 (fun f _ _ => hB f (by omega)) (Or.inl (hB 24 (by omega))) hnl⟩, a7.tr (g 0 12 (by omega) (by omega)) ⟨rfl, rfl⟩ (hB 23 (by omega)) (hB 24 (by omega)) (hF 22 (by omega)), a8.tr a2.1 kk (g 0 7 (by omega) (by omega)) (fun f j _ => g _ j (by omega) (by omega)) (fun _ _ => rfl) (hB 2 (by omega)) (fun f _ _ => hB f (by omega)) (hF 25 (by omega)), a9.tr (g 0 11 (by omega) (by omega)) (fun k _ _ => rfl) (hB 15 (by omega)) (fun f _ _ => hB f (by omega)) (hF 29 (by omega)), a10.tr (g 14 0 (by omega) (by omega)) (g 14 1 (by omega) (by omega)) (g 0 17 (by omega) (by omega)) ⟨hF 33 (by omega), hF 34 (by omega), hF 35 (by omega)⟩⟩
end RRm
