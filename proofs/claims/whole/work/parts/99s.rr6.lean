/-! traps keep the relation -/
section RRtr
variable {K : List Nat} {am N hd : Nat → Nat} {S S' : gS} {F F' : Nat → Int32} {B B' : Nat → Nat → Int32} {NT ni nf nd Lv Md : Nat} {ct dp sz al dr hm ar rs ru cf hp : Nat → Nat} {pt : Nat → Nat → Nat}
theorem t3_at (s r : Nat → Int32) (j : Nat) : ∀ n, (mo_t3 s r n j = 0 ∨ mo_t3 s r n j = s j) ∧ ((∃ k, k < n ∧ (r k).toNatClampNeg = j) → mo_t3 s r n j = 0) := by
  intro n
  induction n with
  | zero => exact ⟨Or.inr rfl, fun ⟨k, hk, _⟩ => absurd hk (Nat.not_lt_zero k)⟩
  | succ n ih =>
    rw [mo_t3]
    by_cases e : j = (r n).toNatClampNeg
    · rw [← e, upd_eq]
      exact ⟨Or.inl rfl, fun _ => rfl⟩
    · rw [upd_ne e]
      refine ⟨ih.1, fun ⟨k, hk, hk2⟩ => ih.2 ⟨k, ?_, hk2⟩⟩
      by_cases e2 : k = n
      · subst e2; exact absurd hk2.symm e
      · omega
theorem t4_at (f : Nat → Int32) (j : Nat) : ∀ n, mo_t4 f n j = if j < n then 128 else f j := by
  intro n
  induction n with
  | zero => rw [if_neg (Nat.not_lt_zero j)]; rfl
  | succ n ih =>
    rw [mo_t4]
    by_cases e : j = n
    · subst e; rw [upd_eq, if_pos (Nat.lt_succ_self j)]
    · rw [upd_ne e, ih]
      by_cases c : j < n
      · rw [if_pos c, if_pos (by omega)]
      · rw [if_neg c, if_neg (by omega)]
theorem gk_t45 : ∀ n, n < 100 → ¬ gk (100 + n) = 4 ∧ ¬ gk (100 + n) = 5 := by decide +kernel
theorem rM.trap (h : rM B ni Md Lv ru) (h16 : ∀ x, ¬ B' 16 x = 0 → ¬ B 16 x = 0 ∧ ¬ B 18 x = 0 ∧ B' 17 x = B 17 x ∧ ¬ B' 18 x = 0) (h18 : ∀ y, B' 18 y = 0 ∨ B' 18 y = 1) (e24 : B' 24 = B 24) : rM B' ni Md 0 ru := by
  obtain ⟨a1, a2, a3, a4, a5, a6⟩ := h
  refine ⟨fun y hy => a1 y (h16 y hy).1, fun y hy => by rw [(h16 y hy).2.2.1]; exact a2 y (h16 y hy).1, h18, fun y hy _ => ?_, fun y z hy _ hz _ e => ?_, fun y hy hy2 => absurd hy2 (h16 y hy).2.2.2⟩
  · rw [(h16 y hy).2.2.1, e24]; exact a4 y (h16 y hy).1 (h16 y hy).2.1
  · rw [(h16 y hy).2.2.1, (h16 z hz).2.2.1] at e
    exact a5 y z (h16 y hy).1 (h16 y hy).2.1 (h16 z hz).1 (h16 z hz).2.1 e
theorem RR.trap {J z : Nat} {S1 S9 : gS} {B1 : Nat → Nat → Int32} {fr : Nat → Bool} {ln : Nat → Int32} {c p : Int32} (H : RR hd K am N S F B NT ni nf nd Lv Md ct dp pt sz al dr hm ar rs ru cf hp) (hz : z < ni) (hJ : J < 6) (kp : pkp J S S1) (hE : EAQ hd S1 S9 z ni Lv (B 15) (B 30) (fun a h => hof B1 fr (17 * a + h + 1))) (t0 : S1.1 14 0 = .int c) (t1 : S1.1 14 1 = .int p) (hme : ∀ j, j < ni → me_R S1 B1 j) (hA : HA am hd S1 B1 fr ln ni) (hfr : ∀ x, ¬ B1 20 x = 0 → fr x = false)
    (e13 : B' 13 = B1 13) (h8 : mo_b8 B') (h13 : ∀ y, 256 * ni ≤ y → B' 13 y = 0) (e14 : ∀ j, j < 6 → B' 14 j = 128) (e15 : B' 15 = upd (mo_t3 (B 15) (B 30) Lv) z 2) (h16 : ∀ x, x < 102 → (¬ B' 16 x = 0 ↔ (¬ B1 16 x = 0 ∧ ¬ B1 18 x = 0 ∧ fr x = false))) (e17 : ∀ f, f = 17 ∨ f = 18 ∨ f = 23 → ∀ x, (f = 23 ∨ ¬ B' 16 x = 0) → B' f x = B1 f x) (h20 : ∀ x, x < 102 → B' 20 x = 0 ∧ B' 21 x = 0) (hM : ∀ x, ¬ B' 16 x = 0 → ¬ B 16 x = 0 ∧ ¬ B 18 x = 0 ∧ B' 17 x = B 17 x ∧ ¬ B' 18 x = 0) (h18 : ∀ y, B' 18 y = 0 ∨ B' 18 y = 1) (hB : ∀ f, f < 37 → f < 13 ∨ 21 < f → B' f = B f)
    (h29 : F' 29 = 0) (h33 : F' 33 = c) (h34 : F' 34 = p) (h35 : F' 35 = nI z) (hF : ∀ f, f = 1 ∨ f = 10 ∨ f = 12 ∨ f = 22 ∨ f = 25 → F' f = F f) : RR hd K am N S9 F' B' NT ni nf nd 0 Md ct dp pt sz al dr hm ar rs ru cf (fun _ => 128) := by
  obtain ⟨a1, a2, a3, a4, ⟨a5, a6⟩, a7, a8, a9, a10⟩ := H
  have kk := kpK.rf K am N
  have hn6 := a4.1.2.2
  have g : ∀ k j, k ≠ 15 → k ≠ 16 → k ≠ 14 → ¬ (k = 10 ∧ j = 3) → ¬ (k = 0 ∧ (j = 11 ∨ j = 17)) → ¬ gk k = 4 → ¬ gk k = 5 → S9.1 k j = S.1 k j := fun k j h1 h2 h3 h4 h5 h6 h7 =>
    (hE.1.1 k j h5 (fun w => h7 w.1) (fun w => h6 w.1)).trans (kp.1 k j h1 h2 h3 h4 (fun w => h7 (by rw [w.1]; exact (gk_in J hJ).1)) h6)
  have gA : ∀ k, k ≠ 11 → k ≠ 13 → k ≠ 201 + 20 * J → S9.2.1 k = S.2.1 k := fun k h1 h2 h3 => by rw [hE.1.2]; exact kp.2.1 k h1 h2 h3
  have gQ : S9.2.2.1 = S.2.2.1 := by rw [hE.1.2]; exact kp.2.2.1
  have g0 : ∀ j, j ≠ 11 → j ≠ 17 → S9.1 0 j = S.1 0 j := fun j h1 h2 => g 0 j (by decide) (by decide) (by decide) (by omega) (by omega) (by decide) (by decide)
  have c15 : ∀ j, B' 15 j = 1 → False := fun j hj => by
    rw [e15] at hj
    by_cases e : j = z
    · rw [e, upd_eq] at hj; exact absurd hj (by decide)
    · rw [upd_ne e] at hj
      obtain ⟨w1, w2⟩ := t3_at (B 15) (B 30) j Lv
      rcases w1 with w1 | w1
      · rw [w1] at hj; exact absurd hj (by decide)
      · have hj2 : B 15 j = 1 := w1.symm.trans hj
        have hjn : j < ni := by
          rcases Nat.lt_or_ge j ni with q | q
          · exact q
          · rw [(a4.2.2.2.2.2 j).1 q] at hj2; exact absurd hj2 (by decide)
        obtain ⟨k, k1, k2⟩ := a9.2.2.2.2.1 j hjn hj2
        rw [w2 ⟨k, k1, by rw [(a9.2.1 k k1).2.1, nI_clamp (by have := (a9.2.1 k k1).2.2.1; omega)]; exact k2⟩] at hj
        exact absurd hj (by decide)
  refine ⟨⟨(a1.1.pk kp).ek hE.1, a1.2⟩, a2.tr kk (g0 1 (by decide) (by decide)) (fun k j _ h1 h2 => ?_) (fun k _ h1 h2 => ⟨gA k (by omega) (by omega) (by omega), by rw [gQ]⟩) (fun _ _ => by rw [gQ]) (fun f _ _ => hB f (by omega) (by omega)) (hF 1 (by omega)), a3.tr a2.1 kk (g0 3 (by decide) (by decide)) (by rw [gQ]) (hB 11 (by omega) (by omega)) (hF 10 (by omega)), ⟨⟨(g0 5 (by decide) (by decide)).trans a4.1.1, (hF 12 (by omega)).trans a4.1.2.1, hn6⟩, fun i hi => ⟨((a4.2.1 i hi).1.pk (by omega) kp).ek hE.1, by rw [gQ]; exact (a4.2.1 i hi).2.1, ?_, ?_, fun a ha => ?_⟩, fun j hj => ⟨e14 j hj, (by decide : 128 ≤ 256)⟩, h8, h13, fun j => ⟨fun hj => ?_, ?_⟩⟩, ⟨⟨HA.trp hn6 hE hA h16 e17 h20 hfr, h20⟩, a6.trap hM h18 (hB 24 (by omega) (by omega))⟩, a7.tr (g0 12 (by decide) (by decide)) ⟨gA 8 (by decide) (by decide) (by omega), gA 9 (by decide) (by decide) (by omega)⟩ (hB 23 (by omega) (by omega)) (hB 24 (by omega) (by omega)) (hF 22 (by omega)), a8.tr a2.1 kk (g0 7 (by decide) (by decide)) (fun f j hf => ?_) (fun f _ => by rw [gQ]) (hB 2 (by omega) (by omega)) (fun f _ _ => hB f (by omega) (by omega)) (hF 25 (by omega)), ⟨⟨hE.2.2.1, h29, by omega⟩, fun k hk => absurd hk (Nat.not_lt_zero k), fun k _ hk => absurd hk (Nat.not_lt_zero k), fun k k' _ hk => absurd hk (Nat.not_lt_zero k'), fun j _ hj => absurd hj (c15 j), fun k hk => by rw [hB 30 (by omega) (by omega)]; exact a9.2.2.2.2.2 k hk⟩, ⟨?_, ?_, ?_⟩⟩
  · have w := gk_t45 (k - 100) (by omega)
    rw [show 100 + (k - 100) = k by omega] at w
    exact g k j (by omega) (by omega) (by omega) (by omega) (by omega) w.1 w.2
  · rw [(hE.2.2.2 i hi).1, e14 i (by omega)]
  · rw [(hE.2.2.2 i hi).2.1, e15]
  · rw [hE.1.2, e13]; exact hme i hi a ha
  · rw [e15, upd_ne (by omega)]
    obtain ⟨w1, -⟩ := t3_at (B 15) (B 30) j Lv
    rcases w1 with w1 | w1
    · exact w1
    · rw [w1]; exact (a4.2.2.2.2.2 j).1 hj
  · rw [e15]
    refine st4_up ?_ (Or.inr (Or.inr (Or.inl rfl)))
    obtain ⟨w1, -⟩ := t3_at (B 15) (B 30) j Lv
    rcases w1 with w1 | w1
    · rw [w1]; exact Or.inl rfl
    · rw [w1]; exact (a4.2.2.2.2.2 j).2
  · have hf12 := a8.1.2.2
    exact g (400 + f) j (by omega) (by omega) (by omega) (by omega) (by omega) (by rw [gk_fu f (by omega)]; decide) (by rw [gk_fu f (by omega)]; decide)
  · rw [hE.1.1 14 0 (by omega) (fun w => absurd w.1 (by decide)) (fun w => absurd w.1 (by decide)), t0, h33]
  · rw [hE.1.1 14 1 (by omega) (fun w => absurd w.1 (by decide)) (fun w => absurd w.1 (by decide)), t1, h34]
  · rw [hE.2.1, h35]
end RRtr
