/-! make, close, traps: calls keep the relation -/
section RRq
variable {K : List Nat} {am N hd : Nat → Nat} {S S' : gS} {F F' : Nat → Int32} {B B' : Nat → Nat → Int32} {NT ni nf nd Lv Md : Nat} {ct dp sz al dr hm ar rs ru cf hp : Nat → Nat} {pt : Nat → Nat → Nat}
theorem HA.mk {i h kd : Nat} (H : HA am hd S B fr0 (lnB B) ni) (hn : ni ≤ 6) (hi : i < ni) (hh : h < 16) (h0 : B 16 (17 * i + h + 1) = 0) (hln : lnB B (17 * i + h + 1) = 0) (h20 : B 20 (17 * i + h + 1) = 0) (e16 : B' 16 = upd (B 16) (17 * i + h + 1) 1) (e17 : B' 17 = upd (B 17) (17 * i + h + 1) (nI Md)) (e18 : B' 18 = upd (B 18) (17 * i + h + 1) 1) (e23 : B' 23 = upd (B 23) Md (nI kd)) (hB : ∀ f, f = 19 ∨ f = 20 ∨ f = 21 → B' f = B f) (hres : ∀ y, ¬ B 16 y = 0 → ∃ r, r < Md ∧ B 17 y = nI r) (hm : Md < 2147483648) (s0 : S'.1 (203 + 20 * i + h) 0 = .int (nI Md)) (s1 : S'.1 (203 + 20 * i + h) 1 = .int (nI kd)) (s2 : S'.1 (203 + 20 * i + h) 2 = .int 0) (s3 : S'.1 (203 + 20 * i + h) 3 = .ref (hd 1)) (hG : ∀ a g j, a < ni → g < 16 → ¬ 17 * a + g + 1 = 17 * i + h + 1 → S'.1 (203 + 20 * a + g) j = S.1 (203 + 20 * a + g) j) : HA am hd S' B' fr0 (lnB B') ni := by
  have e19 := hB 19 (by omega)
  have e20 := hB 20 (by omega)
  have e21 := hB 21 (by omega)
  have eln : ∀ x, lnB B' x = lnB B x := fun x => by
    rw [lnB, lnB, e21, ln_ad h0 e16 e18 (e19.trans (upd_id rfl).symm), if_neg (fun z => absurd z.2.1 (by decide))]
  intro a g ha hg
  by_cases e : 17 * a + g + 1 = 17 * i + h + 1
  · obtain ⟨rfl, rfl⟩ := hx_inj hg hh e
    refine ⟨?_, by rw [s2, eln, hln], fun _ => ?_⟩
    · rw [s3, hof, e16, upd_eq, if_neg (by decide), e20, if_neg (fun z => z h20), e18, upd_eq, if_neg (by decide)]; rfl
    · rw [s0, s1, e17, upd_eq, e18, upd_eq, e23, nI_clamp hm, upd_eq]
      exact ⟨rfl, rfl, fun z => absurd z (by decide)⟩
  · obtain ⟨c1, c2, c3⟩ := H a g ha hg
    refine ⟨?_, by rw [hG a g 2 ha hg e, eln]; exact c2, fun q => ?_⟩
    · rw [hG a g 3 ha hg e, c1]
      unfold hof
      rw [e16, upd_ne e, e18, upd_ne e, e20]
    · rw [e16, upd_ne e] at q
      obtain ⟨r, r1, r2⟩ := hres _ q
      rw [hG a g 0 ha hg e, hG a g 1 ha hg e, hG a g 4 ha hg e, e17, upd_ne e, e18, upd_ne e, e19, e20, e23, r2, nI_clamp (by omega), upd_ne (by omega)]
      have := c3 q
      rw [r2, nI_clamp (by omega)] at this
      exact this
theorem rM.mk {x : Nat} (h : rM B ni Md Lv ru) (hx : ∃ a g, a < ni ∧ g < 16 ∧ x = 17 * a + g + 1) (h0 : B 16 x = 0) (hm : Md < 2147483647) (h24 : B 24 Md = 0) (e16 : B' 16 = upd (B 16) x 1) (e17 : B' 17 = upd (B 17) x (nI Md)) (e18 : B' 18 = upd (B 18) x 1) (e19 : B' 19 = B 19) (e24 : B' 24 = B 24) : rM B' ni (Md + 1) Lv ru := by
  obtain ⟨a1, a2, a3, a4, a5, a6⟩ := h
  have m : ∀ y, y ≠ x → ¬ B' 16 y = 0 → ¬ B 16 y = 0 := fun y hy z => by rw [e16, upd_ne hy] at z; exact z
  have hne : ∀ y, y ≠ x → ¬ B' 16 y = 0 → ¬ B 17 y = nI Md := fun y hy hu z => by
    obtain ⟨r, r1, r2⟩ := a2 y (m y hy hu)
    have := n_eq r Md (r2.symm.trans z)
    omega
  refine ⟨fun y hy => ?_, fun y hy => ?_, fun y => ?_, fun y hy hy2 => ?_, fun y z hy hy2 hz hz2 e => ?_, fun y hy hy2 => ?_⟩
  · by_cases e : y = x
    · rw [e]; exact hx
    · exact a1 y (m y e hy)
  · rw [e17]
    by_cases e : y = x
    · rw [e, upd_eq]; exact ⟨Md, by omega, rfl⟩
    · rw [upd_ne e]
      obtain ⟨r, r1, r2⟩ := a2 y (m y e hy)
      exact ⟨r, by omega, r2⟩
  · rw [e18]
    by_cases e : y = x
    · rw [e, upd_eq]; exact Or.inr rfl
    · rw [upd_ne e]; exact a3 y
  · rw [e17, e24]
    by_cases e : y = x
    · rw [e, upd_eq, nI_clamp (by omega)]; exact h24
    · rw [upd_ne e]
      rw [e18, upd_ne e] at hy2
      exact a4 y (m y e hy) hy2
  · rw [e17] at e
    by_cases ey : y = x
    · by_cases ez : z = x
      · rw [ey, ez]
      · rw [ey, upd_eq, upd_ne ez] at e; exact absurd e.symm (hne z ez hz)
    · by_cases ez : z = x
      · rw [ez, upd_eq, upd_ne ey] at e; exact absurd e (hne y ey hy)
      · rw [upd_ne ey, upd_ne ez] at e
        rw [e18, upd_ne ey] at hy2
        rw [e18, upd_ne ez] at hz2
        exact a5 y z (m y ey hy) hy2 (m z ez hz) hz2 e
  · have ey : y ≠ x := fun z => by rw [e18, z, upd_eq] at hy2; exact absurd hy2 (by decide)
    rw [e18, upd_ne ey] at hy2
    obtain ⟨k, h, h', k1, k2, h1, ex, h2, e9, hu⟩ := a6 y (m y ey hy) hy2
    refine ⟨k, h, h', k1, k2, h1, ex, h2, by rw [e19]; exact e9, ?_⟩
    rw [e16]
    by_cases e : 17 * ru (k - 1) + h' + 1 = x
    · rw [e, upd_eq]; decide
    · rw [upd_ne e]; exact hu
theorem rs_up {Md : Nat} (e23 : ∀ r, r ≠ Md → B' 23 r = B 23 r) (e24 : B' 24 = B 24) (k g : Int32) : ∀ n, n ≤ Md → mo_rs B' k g n = mo_rs B k g n := by
  intro n
  induction n with
  | zero => intro _; rfl
  | succ n ih => intro h; rw [mo_rs, mo_rs, e23 n (by omega), e24, ih (by omega)]
theorem rR.mk {kd : Nat} (h : rR S F B Md) (hm : Md < 2147483647) (hk : kd < 4) (h12 : S'.1 0 12 = .int (nI (Md + 1))) (h8 : S'.2.1 8 = va_up (S.2.1 8) kd (S.2.1 8 kd + 1)) (h9 : S'.2.1 9 = S.2.1 9) (e23 : B' 23 = upd (B 23) Md (nI kd)) (e24 : B' 24 = B 24) (hF : F' 22 = nI (Md + 1)) : rR S' F' B' (Md + 1) := by
  obtain ⟨⟨a1, a2⟩, a3, a4, a5⟩ := h
  have u : ∀ r, r ≠ Md → B' 23 r = B 23 r := fun r hr => by rw [e23, upd_ne hr]
  refine ⟨⟨hF, h12⟩, fun r hr => ?_, fun r hr => by rw [e24]; exact a4 r (by omega), fun k9 hk9 => ?_⟩
  · rw [e24]
    by_cases e : r = Md
    · subst e; rw [e23, upd_eq]; exact ⟨⟨kd, hk, rfl⟩, Or.inl (a4 r (Nat.le_refl _))⟩
    · rw [u r e]; exact a3 r (by omega)
  · obtain ⟨c1, c2⟩ := a5 k9 hk9
    rw [mo_rs, mo_rs, rs_up u e24 _ _ Md (Nat.le_refl _), rs_up u e24 _ _ Md (Nat.le_refl _), e23, upd_eq, e24, a4 Md (Nat.le_refl _), h8, h9]
    rw [if_neg (show ¬ (nI kd = nI k9 ∧ (0 : Int32) = 1) from fun z => absurd z.2 (by decide))]
    refine ⟨?_, c2⟩
    by_cases e : k9 = kd
    · subst e
      rw [if_pos (show nI k9 = nI k9 ∧ (0 : Int32) = 0 from ⟨rfl, rfl⟩), va_up_self, c1, nI_1]
    · rw [if_neg (show ¬ (nI kd = nI k9 ∧ (0 : Int32) = 0) from fun z => e (n_eq kd k9 z.1).symm), va_up_ne _ _ e]
      exact c1
theorem wus_f {x : Nat} {a b : Int32} {e : Nat} {v : Value} : (wus S x a b e v).1 x 0 = .int a ∧ (wus S x a b e v).1 x 1 = .int b ∧ (wus S x a b e v).1 x 2 = .int 0 ∧ (wus S x a b e v).1 x 3 = .ref e := by
  unfold wus
  refine ⟨?_, ?_, gsG_eq _ _ _ _, ?_⟩
  · rw [gsG_nj (Or.inr (by decide)), gsG_nj (Or.inr (by decide)), gsG_nj (Or.inr (by decide)), gsG_nj (Or.inr (by decide))]; exact gsG_eq _ _ _ _
  · rw [gsG_nj (Or.inr (by decide)), gsG_nj (Or.inr (by decide)), gsG_nj (Or.inr (by decide))]; exact gsG_eq _ _ _ _
  · rw [gsG_nj (Or.inr (by decide)), gsG_nj (Or.inr (by decide))]; exact gsG_eq _ _ _ _
theorem mk_S_g {x kd k j : Nat} {md : Int32} (h : k ≠ x) (h0 : ¬ (k = 0 ∧ j = 12)) : (mk_S S hd x kd md).1 k j = S.1 k j := by
  show (gsG (wus S x md (nI kd) (hd 1) .null) 0 12 (.int (md + 1))).1 k j = _
  rw [gsG_nj (by omega), wus_n h]
theorem mk_S_x {x kd j : Nat} {md : Int32} (h : x ≠ 0) : (mk_S S hd x kd md).1 x j = (wus S x md (nI kd) (hd 1) .null).1 x j := by
  show (gsG (wus S x md (nI kd) (hd 1) .null) 0 12 (.int (md + 1))).1 x j = _
  rw [gsG_nj (Or.inl h)]
theorem mk_S_8 {x kd : Nat} {md : Int32} : (mk_S S hd x kd md).2.1 8 = va_up (S.2.1 8) kd (S.2.1 8 kd + 1) := by
  show up2 S.2.1 8 kd (S.2.1 8 kd + 1) 8 = _
  rw [up2_self]
/-- make -/
theorem RR.make {i h kd : Nat} (H : RR hd K am N S F B NT ni nf nd Lv Md ct dp pt sz al dr hm ar rs ru cf hp) (hm9 : Md < 2147483647) (hi : i < ni) (hh : h < 16) (h0 : B 16 (17 * i + h + 1) = 0) (hk : kd < 4) (e16 : B' 16 = upd (B 16) (17 * i + h + 1) 1) (e17 : B' 17 = upd (B 17) (17 * i + h + 1) (nI Md)) (e18 : B' 18 = upd (B 18) (17 * i + h + 1) 1) (e23 : B' 23 = upd (B 23) Md (nI kd)) (hB : ∀ f, f ≠ 16 → f ≠ 17 → f ≠ 18 → f ≠ 23 → B' f = B f) (h22 : F' 22 = nI (Md + 1)) (hF : ∀ f, f = 1 ∨ f = 10 ∨ f = 12 ∨ f = 25 ∨ f = 29 ∨ f = 33 ∨ f = 34 ∨ f = 35 → F' f = F f) : RR hd K am N (mk_S S hd (203 + 20 * i + h) kd (nI Md)) F' B' NT ni nf nd Lv (Md + 1) ct dp pt sz al dr hm ar rs ru cf hp := by
  obtain ⟨a1, a2, a3, a4, ⟨a5, a6⟩, a7, a8, a9, a10⟩ := H
  have kk := kpK.rf K am N
  have hn6 := a4.1.2.2
  have g : ∀ k j, k ≠ 203 + 20 * i + h → ¬ (k = 0 ∧ j = 12) → (mk_S S hd (203 + 20 * i + h) kd (nI Md)).1 k j = S.1 k j := fun k j => mk_S_g
  have m : ∀ k, k ≠ 8 → (mk_S S hd (203 + 20 * i + h) kd (nI Md)).2.1 k = S.2.1 k := fun k hk => up2_ne _ _ hk
  obtain ⟨w0, w1, w2, w3⟩ := wus_f (S := S) (x := 203 + 20 * i + h) (a := nI Md) (b := nI kd) (e := hd 1) (v := .null)
  have hx : 17 * i + h + 1 < 102 := by omega
  refine ⟨a1.tr (fun j _ _ _ _ _ h12 _ => g 0 j (by omega) (by omega)) (fun j _ => g 10 j (by omega) (by omega)), a2.tr kk (g 0 1 (by omega) (by omega)) (fun k j _ _ _ => g k j (by omega) (by omega)) (fun k _ _ _ => ⟨m k (by omega), rfl⟩) (fun _ _ => rfl) (fun f _ _ => hB f (by omega) (by omega) (by omega) (by omega)) (hF 1 (by omega)), a3.tr a2.1 kk (g 0 3 (by omega) (by omega)) rfl (hB 11 (by omega) (by omega) (by omega) (by omega)) (hF 10 (by omega)), a4.tr kk (g 0 5 (by omega) (by omega)) (fun a j _ _ => g _ j (by omega) (by omega)) (fun a _ => m _ (by omega)) (fun _ _ => ⟨rfl, rfl⟩) (fun f _ _ => hB f (by omega) (by omega) (by omega) (by omega)) (hF 12 (by omega)), ⟨⟨a5.1.mk (kd := kd) (Md := Md) hn6 hi hh h0 (a6.ln0 hn6 a5.2 hx h0) (a5.2 _ hx).1 e16 e17 e18 e23 (fun f hf => hB f (by omega) (by omega) (by omega) (by omega)) a6.2.1 (by omega) ((mk_S_x (by omega)).trans w0) ((mk_S_x (by omega)).trans w1) ((mk_S_x (by omega)).trans w2) ((mk_S_x (by omega)).trans w3) (fun a b j _ _ hn => g _ j (by omega) (by omega)), fun x hx => by rw [hB 20 (by omega) (by omega) (by omega) (by omega), hB 21 (by omega) (by omega) (by omega) (by omega)]; exact a5.2 x hx⟩, a6.mk (x := 17 * i + h + 1) ⟨i, h, hi, hh, rfl⟩ h0 hm9 (a7.2.2.1 Md (Nat.le_refl _)) e16 e17 e18 (hB 19 (by omega) (by omega) (by omega) (by omega)) (hB 24 (by omega) (by omega) (by omega) (by omega))⟩, a7.mk hm9 hk ?_ (mk_S_8) (m 9 (by omega)) e23 (hB 24 (by omega) (by omega) (by omega) (by omega)) h22, a8.tr a2.1 kk (g 0 7 (by omega) (by omega)) (fun f j _ => g _ j (by omega) (by omega)) (fun _ _ => rfl) (hB 2 (by omega) (by omega) (by omega) (by omega)) (fun f _ _ => hB f (by omega) (by omega) (by omega) (by omega)) (hF 25 (by omega)), a9.tr (g 0 11 (by omega) (by omega)) (fun k _ _ => m k (by omega)) (hB 15 (by omega) (by omega) (by omega) (by omega)) (fun f _ _ => hB f (by omega) (by omega) (by omega) (by omega)) (hF 29 (by omega)), a10.tr (g 14 0 (by omega) (by omega)) (g 14 1 (by omega) (by omega)) (g 0 17 (by omega) (by omega)) ⟨hF 33 (by omega), hF 34 (by omega), hF 35 (by omega)⟩⟩
  show (gsG (wus S (203 + 20 * i + h) (nI Md) (nI kd) (hd 1) .null) 0 12 (.int (nI Md + 1))).1 0 12 = _
  rw [gsG_eq, nI_1]
/-- one that doesn't run gets another condition than running -/
theorem RR.cond {i : Nat} {c : Int32} (H : RR hd K am N S F B NT ni nf nd Lv Md ct dp pt sz al dr hm ar rs ru cf hp) (hi : i < ni) (h1 : ¬ B 15 i = 1) (hc : ¬ c = 1) (hc4 : st4 c) (e15 : B' 15 = upd (B 15) i c) (hB : ∀ f, f ≠ 15 → B' f = B f) (hF : ∀ f, f = 1 ∨ f = 10 ∨ f = 12 ∨ f = 22 ∨ f = 25 ∨ f = 29 ∨ f = 33 ∨ f = 34 ∨ f = 35 → F' f = F f) : RR hd K am N (gsG S (200 + 20 * i) 3 (.int c)) F' B' NT ni nf nd Lv Md ct dp pt sz al dr hm ar rs ru cf hp := by
  obtain ⟨a1, a2, a3, a4, ⟨a5, a6⟩, a7, a8, a9, a10⟩ := H
  have kk := kpK.rf K am N
  have hn6 := a4.1.2.2
  have g : ∀ k j, ¬ (k = 200 + 20 * i ∧ j = 3) → (gsG S (200 + 20 * i) 3 (.int c)).1 k j = S.1 k j := fun k j h => gsG_nj (by omega)
  refine ⟨a1.tr (fun j _ _ _ _ _ _ _ => g 0 j (by omega)) (fun j _ => g 10 j (by omega)), a2.tr kk (g 0 1 (by omega)) (fun k j _ _ _ => g k j (by omega)) (fun k _ _ _ => ⟨rfl, rfl⟩) (fun _ _ => rfl) (fun f _ _ => hB f (by omega)) (hF 1 (by omega)), a3.tr a2.1 kk (g 0 3 (by omega)) rfl (hB 11 (by omega)) (hF 10 (by omega)), ?_, ⟨a5.tr (fun i hi => (a4.2.1 i hi).1) kk (fun _ _ _ _ _ => g _ _ (by omega)) (fun f _ _ => hB f (by omega)), a6.tr (fun f _ _ => hB f (by omega)) (hB 24 (by omega))⟩, a7.tr (g 0 12 (by omega)) ⟨rfl, rfl⟩ (hB 23 (by omega)) (hB 24 (by omega)) (hF 22 (by omega)), a8.tr a2.1 kk (g 0 7 (by omega)) (fun f j _ => g _ j (by omega)) (fun _ _ => rfl) (hB 2 (by omega)) (fun f _ _ => hB f (by omega)) (hF 25 (by omega)), ?_, a10.tr (g 14 0 (by omega)) (g 14 1 (by omega)) (g 0 17 (by omega)) ⟨hF 33 (by omega), hF 34 (by omega), hF 35 (by omega)⟩⟩
  · obtain ⟨⟨b1, b2, b3⟩, b4, b5, b6, b7, b8⟩ := a4
    refine ⟨⟨(g 0 5 (by omega)).trans b1, (hF 12 (by omega)).trans b2, b3⟩, fun j hj => ?_, by rw [hB 14 (by omega)]; exact b5, by unfold mo_b8; rw [hB 13 (by omega)]; exact b6, by rw [hB 13 (by omega)]; exact b7, fun j => ⟨fun hj => by rw [e15, upd_ne (by omega)]; exact (b8 j).1 hj, by rw [e15]; exact st4_up (b8 j).2 hc4⟩⟩
    obtain ⟨c1, c2, c3, c4, c5⟩ := b4 j hj
    refine ⟨c1.of (fun j' h' => g _ j' (by omega)) rfl, c2, by rw [g _ 2 (by omega), hB 14 (by omega)]; exact c3, ?_, fun a ha => by rw [hB 13 (by omega)]; exact c5 a ha⟩
    rw [e15]
    by_cases e : j = i
    · subst e; rw [upd_eq]; exact gsG_eq _ _ _ _
    · rw [upd_ne e, g _ 3 (by omega)]; exact c4
  · obtain ⟨⟨b1, b2, b3⟩, b4, b5, b6, b7, b8⟩ := a9
    have ne : ∀ k, k < Lv → ru k ≠ i := fun k hk z => h1 (by rw [← z]; exact (b4 k hk).2.2.2.1)
    refine ⟨⟨(g 0 11 (by omega)).trans b1, (hF 29 (by omega)).trans b2, b3⟩, fun k hk => ?_, fun k k1 hk => ?_, b6, fun j hj hj1 => ?_, by rw [hB 30 (by omega)]; exact b8⟩
    · obtain ⟨c1, c2, c3, c4, c5⟩ := b4 k hk
      rw [hB 30 (by omega), hB 32 (by omega), e15, upd_ne (ne k hk)]
      exact ⟨c1, c2, c3, c4, c5⟩
    · rw [hB 31 (by omega)]; exact b5 k k1 hk
    · rw [e15] at hj1
      by_cases e : j = i
      · rw [e, upd_eq] at hj1; exact absurd hj1 hc
      · rw [upd_ne e] at hj1; exact b7 j hj hj1
theorem cl_at (B : Nat → Nat → Int32) (b x : Nat) : ∀ n, (b + n < x ∨ x ≤ b) → (mo_cl B b n).1 x = B 16 x := by
  intro n
  induction n with
  | zero => intro _; rfl
  | succ n ih =>
    intro h
    rw [mo_cl]
    split
    · dsimp only; rw [upd_ne (by omega)]; exact ih (by omega)
    · dsimp only; rw [upd_ne (by omega)]; exact ih (by omega)
def cl_B (B : Nat → Nat → Int32) (j n : Nat) : Nat → Nat → Int32 := va_up (va_up (va_up B 24 (mo_cl B (17 * j) n).2.1) 16 (mo_cl B (17 * j) n).1) 15 (upd (B 15) j 3)
theorem cl_Bn {j n f : Nat} (h1 : f ≠ 15) (h2 : f ≠ 16) (h3 : f ≠ 24) : cl_B B j n f = B f := by
  rw [cl_B, va_up_ne _ _ h1, va_up_ne _ _ h2, va_up_ne _ _ h3]
theorem cl_B16 {j n : Nat} : cl_B B j n 16 = (mo_cl B (17 * j) n).1 := by rw [cl_B, va_up_ne _ _ (by decide), va_up_self]
theorem cl_B24 {j n : Nat} : cl_B B j n 24 = (mo_cl B (17 * j) n).2.1 := by rw [cl_B, va_up_ne _ _ (by decide), va_up_ne _ _ (by decide), va_up_self]
theorem cl_B15 {j n : Nat} : cl_B B j n 15 = upd (B 15) j 3 := by rw [cl_B, va_up_self]
/-- close -/
theorem RR.close {j : Nat} (H : RR hd K am N S F B NT ni nf nd Lv Md ct dp pt sz al dr hm ar rs ru cf hp) (hm9 : Md < 2147483648) (hj : j < ni) (h1 : ¬ B 15 j = 1) (hF : ∀ f, f = 1 ∨ f = 10 ∨ f = 12 ∨ f = 22 ∨ f = 25 ∨ f = 29 ∨ f = 33 ∨ f = 34 ∨ f = 35 → F' f = F f) : ∀ n, n ≤ 16 → RR hd K am N (cs_S S hd B j n).1 F' (cl_B B j n) NT ni nf nd Lv Md ct dp pt sz al dr hm ar rs ru cf hp ∧ (cs_S S hd B j n).2 = (mo_cl B (17 * j) n).2.2 := by
  intro n
  induction n with
  | zero =>
    intro _
    exact ⟨H.cond hj h1 (by decide) (Or.inr (Or.inr (Or.inr rfl))) cl_B15 (fun f hf => by
      by_cases e16 : f = 16
      · rw [e16, cl_B16]; rfl
      · by_cases e24 : f = 24
        · rw [e24, cl_B24]; rfl
        · exact cl_Bn hf e16 e24) hF, rfl⟩
  | succ n ih =>
    intro hn
    obtain ⟨R, ec⟩ := ih (by omega)
    have R0 := R
    obtain ⟨-, -, -, a4, ⟨a5, a6⟩, a7, -, a9, -⟩ := R
    have hn6 := a4.1.2.2
    have ax := cl_at B (17 * j) (17 * j + (n + 1)) n (by omega)
    have ex : 17 * j + (n + 1) = 17 * j + n + 1 := by omega
    have nrun : ∀ k, k < Lv → ru k ≠ j := fun k hk z => by
      have := (a9.2.1 k hk).2.2.2.1
      rw [cl_B15, z, upd_eq] at this
      exact absurd this (by decide)
    have h20 : B 20 (17 * j + n + 1) = 0 := by have := (a5.2 (17 * j + n + 1) (by omega)).1; rw [cl_Bn (by decide) (by decide) (by decide)] at this; exact this
    have hu16 : cl_B B j n 16 (17 * j + n + 1) = B 16 (17 * j + n + 1) := by rw [cl_B16, ← ex]; exact ax
    by_cases c : hof B fr0 (17 * j + n + 1) = 1
    · obtain ⟨c1, -, c3⟩ := hof1 c
      have e1 : mo_cl B (17 * j) (n + 1) = (upd (mo_cl B (17 * j) n).1 (17 * j + (n + 1)) 0, upd (mo_cl B (17 * j) n).2.1 (B 17 (17 * j + (n + 1))).toNatClampNeg 1, (mo_cl B (17 * j) n).2.2 + 1) := by
        rw [mo_cl, if_pos ⟨by rw [ax, ex]; exact c1, by rw [ex]; exact c3⟩]
      have hu : ¬ cl_B B j n 16 (17 * j + n + 1) = 0 := by rw [hu16]; exact c1
      obtain ⟨r, r1, r2⟩ := a6.2.1 _ hu
      obtain ⟨kd, k1, k2⟩ := (a7.2.1 r r1).1
      have e17 : cl_B B j n 17 = B 17 := cl_Bn (by decide) (by decide) (by decide)
      have e23 : cl_B B j n 23 = B 23 := cl_Bn (by decide) (by decide) (by decide)
      have ekk : cs_k B j n = kd := by
        rw [cs_k, ← e23, ← e17, r2, nI_clamp (by omega), k2, nI_clamp (by omega)]
      rw [cs_S, if_pos c, ekk, e1]
      refine ⟨R0.destroy hm9 hj (by omega) hu (by rw [cl_Bn (by decide) (by decide) (by decide)]; exact c3) (fun y hy hy2 hy3 => ?_) k1 (by rw [r2, nI_clamp (by omega)]; exact k2) ?_ ?_ (fun f f1 f2 => ?_) (fun f _ => rfl), by rw [ec]⟩
      · obtain ⟨k, h, h', k3, k4, h5, ex9, h6, e9, -⟩ := a6.2.2.2.2.2 y hy hy2
        have hrn := (a9.2.1 (k - 1) (by omega)).2.2.1
        have := n_eq _ _ (e9.symm.trans hy3)
        exact nrun (k - 1) (by omega) (by omega)
      · rw [cl_B16, cl_B16, e1, ex]
      · rw [cl_B24, cl_B24, e1, e17, ex]
      · by_cases f15 : f = 15
        · rw [f15, cl_B15, cl_B15]
        · rw [cl_Bn f15 f1 f2, cl_Bn f15 f1 f2]
    · have h0 : B 16 (17 * j + n + 1) = 0 := by
        refine Decidable.byContradiction (fun z => ?_)
        have hu : ¬ cl_B B j n 16 (17 * j + n + 1) = 0 := by rw [hu16]; exact z
        rcases (hof12 (B := B) (x := 17 * j + n + 1)).mpr ⟨z, h20⟩ with w | w
        · exact c w
        · have l18 : cl_B B j n 18 (17 * j + n + 1) = 0 := by rw [cl_Bn (by decide) (by decide) (by decide)]; exact (hof2 w).2
          obtain ⟨k, h, h', k3, k4, h5, ex9, -⟩ := a6.2.2.2.2.2 _ hu l18
          exact nrun k k4 (by omega)
      have e1 : mo_cl B (17 * j) (n + 1) = mo_cl B (17 * j) n := by
        rw [mo_cl, if_neg (fun z => z.1 (by rw [ax, ex]; exact h0)), upd_id (by rw [ax, ex]; exact h0)]
      have e2 : cl_B B j (n + 1) = cl_B B j n := by unfold cl_B; rw [e1]
      rw [cs_S, if_neg c, e2, e1]
      exact ⟨R0, ec⟩
end RRq
