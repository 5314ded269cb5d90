/-! a passing on both sides -/
theorem bk_at (u ow : Nat → Int32) (b x : Nat) : ∀ n, bk_u u ow b n x = if b < x ∧ x ≤ b + n then (if ¬ u x = 0 ∧ ¬ ow x = 0 then 1 else 0) else u x := by
  intro n
  induction n with
  | zero => rw [if_neg (by omega)]; rfl
  | succ n ih =>
    rw [bk_u]
    by_cases e : x = b + (n + 1)
    · rw [← e, upd_eq, ih, if_neg (show ¬ (b < x ∧ x ≤ b + n) by omega), if_pos (show b < x ∧ x ≤ x by omega)]
    · rw [upd_ne e, ih]
      by_cases c : b < x ∧ x ≤ b + n
      · rw [if_pos c, if_pos (show b < x ∧ x ≤ b + (n + 1) by omega)]
      · rw [if_neg c, if_neg (show ¬ (b < x ∧ x ≤ b + (n + 1)) by omega)]
theorem pe_T {z : Prop} [Decidable z] (hz : z) (B : Nat → Nat → Int32) (m : Nat) : pe_B z B m = pe_B True B m := by
  unfold pe_B
  have : pe_u z B m = pe_u True B m := by
    funext x
    unfold pe_u
    by_cases c : ¬ B 16 x = 0 ∧ B 20 x = 0
    · rw [if_pos (show ¬ B 16 x = 0 ∧ (B 20 x = 0 ∨ ¬ z) from ⟨c.1, Or.inl c.2⟩), if_pos (show ¬ B 16 x = 0 ∧ (B 20 x = 0 ∨ ¬ True) from ⟨c.1, Or.inl c.2⟩)]
    · rw [if_neg (show ¬ (¬ B 16 x = 0 ∧ (B 20 x = 0 ∨ ¬ z)) from fun w => c ⟨w.1, w.2.elim id (fun y => absurd hz y)⟩), if_neg (show ¬ (¬ B 16 x = 0 ∧ (B 20 x = 0 ∨ ¬ True)) from fun w => c ⟨w.1, w.2.elim id (fun y => absurd trivial y)⟩)]
  rw [this]
/-- handles behind a passing that went well -/
def GH (B B2 : Nat → Nat → Int32) (i J : Nat) (lend : Prop) : Prop :=
  (∀ x, ¬ B2 16 x = 0 → (¬ B 16 x = 0 ∧ B2 17 x = B 17 x ∧ B2 18 x = B 18 x ∧ B2 19 x = B 19 x) ∨ (∃ h h', h < 16 ∧ h' < 16 ∧ x = 17 * J + h + 1 ∧ ¬ B 16 (17 * i + h' + 1) = 0 ∧ B2 17 x = B 17 (17 * i + h' + 1) ∧ B2 19 x = nI (17 * i + h' + 1) ∧ ((B2 18 x = 1 ∧ ¬ B 18 (17 * i + h' + 1) = 0) ∨ (lend ∧ B2 18 x = 0 ∧ ¬ B2 16 (17 * i + h' + 1) = 0))))
  ∧ (∀ x z, ¬ B 16 x = 0 → B 18 x = 0 → z < 102 → B 19 x = nI z → ¬ B 16 z = 0 → ¬ B2 16 z = 0)
  ∧ (∀ x y, ¬ B2 16 x = 0 → ¬ B2 18 x = 0 → ¬ B2 16 y = 0 → ¬ B2 18 y = 0 → B2 17 x = B2 17 y → x = y)
  ∧ ∀ y, B2 18 y = 0 ∨ B2 18 y = 1
theorem GH.of {B Bs Bw B2 : Nat → Nat → Int32} {i J n : Nat} {z : Prop} [Decidable z] (hz : z) (hi : i < 6) (hJ : J < 6) (hn : n ≤ 200) (hs : mo_sc B Bs) (hR : RT B i n Bs) (hP : RP Bs n) (hW : WP Bs i J n n Bw) (h16 : ∀ x, 102 ≤ x → Bw 16 x = 0) (h16b : ∀ x, 102 ≤ x → B 16 x = 0) (h18 : ∀ y, Bw 18 y = 0 ∨ Bw 18 y = 1) (a : mo_ag (pe_B z Bw 102) B2) : GH B B2 i J (∃ k, k < n ∧ kdI Bs k = 12) := by
  obtain ⟨p1, p2, p3, p4, p5⟩ := hW
  obtain ⟨r1, r2, r3, r4⟩ := hR
  have sc : ∀ k, k < 20 → Bs k = B k := fun k hk => hs k (by omega) (by omega) (by omega) (by omega)
  have e20 : Bw 20 = Bs 20 := p1 20 (by decide) (by decide) (by decide) (by decide) (by decide) (by decide) (by decide) (by decide) (by decide)
  have un : ∀ f, f = 17 ∨ f = 18 ∨ f = 19 → B2 f = Bw f := fun f hf => (a f (by omega)).trans (pe_un (by omega) (by omega) (by omega))
  have m16 : ∀ x, ¬ B2 16 x = 0 ↔ (x < 102 ∧ ¬ Bw 16 x = 0 ∧ Bs 20 x = 0) := fun x => by
    rw [a 16 (by omega)]
    by_cases c : x < 102
    · rw [pe_n0 c, e20]
      exact ⟨fun w => ⟨c, w.1, w.2.elim id (fun y => absurd hz y)⟩, fun w => ⟨w.2.1, Or.inl w.2.2⟩⟩
    · have : pe_B z Bw 102 16 x = Bw 16 x := by
        rw [pe_B, va_up_ne _ _ (by decide), va_up_ne _ _ (by decide), va_up_self, pe_u, if_neg c]
      rw [this, h16 x (by omega)]
      exact ⟨fun w => absurd rfl w, fun w => absurd w.1 c⟩
  have nt : ∀ y, y < 102 → ¬ Bs 20 y = 0 → nbw Bs y n = 0 ∧ ∀ x, x < 102 → ¬ (¬ Bs 16 x = 0 ∧ Bs 18 x = 0 ∧ Bs 19 x = nI y) := fun y hy h0 => by
    have := (r2 y hy h0).2.2.1
    rw [lnB, hP y hy] at this
    exact ln_pos (by have := nbw_up Bs y n; omega) this
  refine ⟨fun x hx => ?_, fun x y hx hx8 hy e19 hy6 => ?_, fun x y hx hx8 hy hy8 e => ?_, fun y => ?_⟩
  · obtain ⟨c1, c2, c3⟩ := (m16 x).mp hx
    rw [un 17 (by omega), un 18 (by omega), un 19 (by omega)]
    by_cases d : Bs 16 x = 0
    · right
      obtain ⟨g1, g2, k', y, k1, k2, k3, k4, k5, k6, k7, k8⟩ := p3 x c2 d
      have ey : 17 * i + (y - 17 * i - 1) + 1 = y := by omega
      refine ⟨x - 17 * J - 1, y - 17 * i - 1, by omega, by omega, by omega, ?_, ?_, ?_, ?_⟩
      · rw [ey, ← sc 16 (by omega)]; exact k5
      · rw [ey, k6, sc 17 (by omega)]
      · rw [ey]; exact k7
      · rw [ey]
        rcases k8 with ⟨k8, k9⟩ | ⟨k8, k9⟩
        · left
          obtain ⟨x', w1, w2, w3, w4, w5⟩ := r3 k' k1 (by rw [k8]; decide)
          have ex : x' = y := n_eq x' y (w1.symm.trans k2)
          subst ex
          rcases w5 with ⟨-, w5⟩ | w5
          · exact ⟨k9, by rw [← sc 18 (by omega)]; exact (r2 x' (by omega) w5).2.1⟩
          · rw [k8] at w5; exact absurd w5 (by decide)
        · right
          refine ⟨⟨k', k1, k8⟩, k9, (m16 y).mpr ⟨by omega, by rw [(p2 y k5).1]; exact k5, ?_⟩⟩
          refine Decidable.byContradiction fun w => ?_
          have := (nt y (by omega) w).1
          have := nbw_pos k8 k2 n k1
          omega
    · left
      obtain ⟨q1, q2, q3, q4⟩ := p2 x d
      rw [q2, q3, q4, sc 17 (by omega), sc 18 (by omega), sc 19 (by omega)]
      rw [sc 16 (by omega)] at d
      exact ⟨d, rfl, rfl, rfl⟩
  · have hx1 : x < 102 := Nat.lt_of_not_le fun w => hx (h16b x w)
    refine (m16 y).mpr ⟨hy, ?_, ?_⟩
    · rw [← sc 16 (by omega)] at hy6
      rw [(p2 y hy6).1]; exact hy6
    · refine Decidable.byContradiction fun w => (nt y hy w).2 x hx1 ?_
      rw [sc 16 (by omega), sc 18 (by omega), sc 19 (by omega)]
      exact ⟨hx, hx8, e19⟩
  · obtain ⟨c1, c2, c3⟩ := (m16 x).mp hx
    obtain ⟨d1, d2, d3⟩ := (m16 y).mp hy
    rw [un 18 (by omega)] at hx8 hy8
    rw [un 17 (by omega)] at e
    exact p4 x y ⟨c2, hx8, Or.inl c3⟩ ⟨d2, hy8, Or.inl d3⟩ e
  · rw [un 18 (by omega)]; exact h18 y
theorem GH.push {B B2 B' : Nat → Nat → Int32} {ni Md Lv J : Nat} {ru : Nat → Nat} {lend : Prop} (h : rM B ni Md Lv ru) (g : GH B B2 (ru (Lv - 1)) J lend) (hn : ni ≤ 6) (hL : 0 < Lv) (hi : ru (Lv - 1) < ni) (hJ : J < ni) (e : ∀ f, 16 ≤ f → f ≤ 19 → B' f = B2 f) (h24 : B' 24 = B 24) : rM B' ni Md (Lv + 1) (va_up ru Lv J) := by
  obtain ⟨b1, b2, b3, b4, b5, b6⟩ := h
  obtain ⟨g1, g2, g3, g4⟩ := g
  unfold rM
  rw [e 16 (by omega) (by omega), e 17 (by omega) (by omega), e 18 (by omega) (by omega), e 19 (by omega) (by omega), h24]
  refine ⟨fun x hx => ?_, fun x hx => ?_, g4, fun x hx hx8 => ?_, g3, fun x hx hx8 => ?_⟩
  · rcases g1 x hx with ⟨c1, -⟩ | ⟨h, h', c1, c2, c3, -⟩
    · exact b1 x c1
    · exact ⟨J, h, hJ, c1, c3⟩
  · rcases g1 x hx with ⟨c1, c2, -⟩ | ⟨h, h', c1, c2, c3, c4, c5, -⟩
    · rw [c2]; exact b2 x c1
    · rw [c5]; exact b2 _ c4
  · rcases g1 x hx with ⟨c1, c2, c3, -⟩ | ⟨h, h', c1, c2, c3, c4, c5, c6, c7⟩
    · rw [c2]; rw [c3] at hx8; exact b4 x c1 hx8
    · rw [c5]
      rcases c7 with ⟨-, c7⟩ | ⟨-, c7, -⟩
      · exact b4 _ c4 c7
      · exact absurd c7 hx8
  · rcases g1 x hx with ⟨c1, c2, c3, c4⟩ | ⟨h, h', c1, c2, c3, c4, c5, c6, c7⟩
    · rw [c3] at hx8
      obtain ⟨k, h, h', k1, k2, k3, k4, k5, k6, k7⟩ := b6 x c1 hx8
      obtain ⟨a, g, a1, a2, a3⟩ := b1 _ k7
      refine ⟨k, h, h', k1, by omega, k3, ?_, k5, ?_, ?_⟩
      · rw [va_up_ne _ _ (by omega)]; exact k4
      · rw [c4, va_up_ne _ _ (by omega)]; exact k6
      · rw [va_up_ne _ _ (by omega)]; exact g2 x _ c1 hx8 (by omega) k6 k7
    · rcases c7 with ⟨c7, -⟩ | ⟨-, -, c7⟩
      · rw [c7] at hx8; exact absurd hx8 (by decide)
      · refine ⟨Lv, h, h', hL, by omega, c1, ?_, c2, ?_, ?_⟩
        · rw [va_up_self]; exact c3
        · rw [va_up_ne _ _ (by omega)]; exact c6
        · rw [va_up_ne _ _ (by omega)]; exact c7
theorem GH.back {B B2 B' : Nat → Nat → Int32} {ni Md Lv J i : Nat} {ru : Nat → Nat} {lend : Prop} (h : rM B ni Md Lv ru) (g : GH B B2 i J lend) (hnl : ¬ lend) (hn : ni ≤ 6) (hL : 2 ≤ Lv) (ei : ru (Lv - 1) = i) (hru : ∀ k, k < Lv - 1 → ru k ≠ i) (hJ : J < ni) (e16 : B' 16 = bk_u (B2 16) (B2 18) (17 * i) 16) (e : ∀ f, 17 ≤ f → f ≤ 19 → B' f = B2 f) (h24 : B' 24 = B 24) : rM B' ni Md (Lv - 1) ru := by
  obtain ⟨b1, b2, b3, b4, b5, b6⟩ := h
  obtain ⟨g1, g2, g3, g4⟩ := g
  have m : ∀ x, ¬ B' 16 x = 0 → ¬ B2 16 x = 0 ∧ (17 * i < x ∧ x ≤ 17 * i + 16 → ¬ B2 18 x = 0) := fun x hx => by
    rw [e16, bk_at] at hx
    by_cases c : 17 * i < x ∧ x ≤ 17 * i + 16
    · rw [if_pos c] at hx
      by_cases d : ¬ B2 16 x = 0 ∧ ¬ B2 18 x = 0
      · exact ⟨d.1, fun _ => d.2⟩
      · rw [if_neg d] at hx; exact absurd rfl hx
    · rw [if_neg c] at hx; exact ⟨hx, fun w => absurd w c⟩
  unfold rM
  rw [e 17 (by omega) (by omega), e 18 (by omega) (by omega), e 19 (by omega) (by omega), h24]
  refine ⟨fun x hx => ?_, fun x hx => ?_, g4, fun x hx hx8 => ?_, fun x y hx hx8 hy hy8 e => g3 x y (m x hx).1 hx8 (m y hy).1 hy8 e, fun x hx hx8 => ?_⟩
  · rcases g1 x (m x hx).1 with ⟨c1, -⟩ | ⟨h, h', c1, c2, c3, -⟩
    · exact b1 x c1
    · exact ⟨J, h, hJ, c1, c3⟩
  · rcases g1 x (m x hx).1 with ⟨c1, c2, -⟩ | ⟨h, h', c1, c2, c3, c4, c5, -⟩
    · rw [c2]; exact b2 x c1
    · rw [c5]; exact b2 _ c4
  · rcases g1 x (m x hx).1 with ⟨c1, c2, c3, -⟩ | ⟨h, h', c1, c2, c3, c4, c5, c6, c7⟩
    · rw [c2]; rw [c3] at hx8; exact b4 x c1 hx8
    · rw [c5]
      rcases c7 with ⟨-, c7⟩ | ⟨c7, -⟩
      · exact b4 _ c4 c7
      · exact absurd c7 hnl
  · have ho : ¬ (17 * i < x ∧ x ≤ 17 * i + 16) := fun w => (m x hx).2 w hx8
    rcases g1 x (m x hx).1 with ⟨c1, c2, c3, c4⟩ | ⟨h, h', c1, c2, c3, c4, c5, c6, c7⟩
    · rw [c3] at hx8
      obtain ⟨k, h, h', k1, k2, k3, k4, k5, k6, k7⟩ := b6 x c1 hx8
      obtain ⟨a, g, a1, a2, a3⟩ := b1 _ k7
      have kl : k ≠ Lv - 1 := fun w => ho (by rw [w, ei] at k4; omega)
      have hr := hru (k - 1) (by omega)
      refine ⟨k, h, h', k1, by omega, k3, k4, k5, by rw [c4]; exact k6, ?_⟩
      rw [e16, bk_at, if_neg (by omega)]
      exact g2 x _ c1 hx8 (by omega) k6 k7
    · rcases c7 with ⟨c7, -⟩ | ⟨c7, -⟩
      · rw [c7] at hx8; exact absurd hx8 (by decide)
      · exact absurd c7 hnl
section RRp
variable {K : List Nat} {am N hd : Nat → Nat} {S S' : gS} {F F' : Nat → Int32} {B B' : Nat → Nat → Int32} {NT ni nf nd Lv Md : Nat} {ct dp sz al dr hm ar rs ru cf hp : Nat → Nat} {pt : Nat → Nat → Nat} {ks : Nat → ClassId}
theorem RRx.hk (h : RRx hd K am N S F B NT ni nf nd Lv Md ct dp pt sz al dr hm ar rs ru cf hp) (a : hkp S S') (hA : HA am hd S' B' fr0 (lnB B') ni) (hB : ∀ f, f ≠ 16 → B' f = B f) : RRx hd K am N S' F B' NT ni nf nd Lv Md ct dp pt sz al dr hm ar rs ru cf hp := by
  obtain ⟨a1, a2, a3, a4, a5, a7, a8, a9, a10⟩ := h
  have kk := kpK.rf K am N
  have hn6 := a4.1.2.2
  have h32 := a2.1.1
  have hf12 := a8.1.2.2
  have g : ∀ k j, ¬ gk k = 4 → S'.1 k j = S.1 k j := fun k j h => a.1 k j (fun w => h w.1)
  have e2 := a.2
  refine ⟨a1.tr (fun j _ _ _ _ _ _ _ => g 0 j (by decide)) (fun j _ => g 10 j (by decide)), a2.tr kk (g 0 1 (by decide)) (fun k j _ h1 h2 => ?_) (fun k _ _ _ => ⟨by rw [e2], by rw [e2]⟩) (fun _ _ => by rw [e2]) (fun f _ _ => hB f (by omega)) rfl, a3.tr a2.1 kk (g 0 3 (by decide)) (by rw [e2]) (hB 11 (by omega)) rfl, a4.tr kk (g 0 5 (by decide)) (fun a j ha _ => g _ j (by rw [(gk_in a (by omega)).1]; decide)) (fun a _ => by rw [e2]) (fun _ _ => ⟨by rw [e2], by rw [e2]⟩) (fun f _ _ => hB f (by omega)) rfl, ⟨hA, fun x hx => by rw [hB 20 (by omega), hB 21 (by omega)]; exact a5.2 x hx⟩, a7.tr (g 0 12 (by decide)) ⟨by rw [e2], by rw [e2]⟩ (hB 23 (by omega)) (hB 24 (by omega)) rfl, a8.tr a2.1 kk (g 0 7 (by decide)) (fun f j hf => g _ j (by rw [gk_fu f (by omega)]; decide)) (fun _ _ => by rw [e2]) (hB 2 (by omega)) (fun f _ _ => hB f (by omega)) rfl, a9.tr (g 0 11 (by decide)) (fun k _ _ => by rw [e2]) (hB 15 (by omega)) (fun f _ _ => hB f (by omega)) rfl, a10.tr (g 14 0 (by decide)) (g 14 1 (by decide)) (g 0 17 (by decide)) ⟨rfl, rfl, rfl⟩⟩
  have w := gk_t45 (k - 100) (by omega)
  rw [show 100 + (k - 100) = k by omega] at w
  exact g k j w.1
theorem RR.hend {R : Nat → Nat → Prop} {J tt uu : Nat} {p : Int32} {F0 : Nat → Int32} {q : Nat × (Nat → Nat → Int32)} {S9 : gS} (H : RR hd K am N S F B NT ni nf nd Lv Md ct dp pt sz al dr hm ar rs ru cf hp) (hL : 0 < Lv) (hJ : J < ni) (hiJ : ru (Lv - 1) ≠ J) (hR : ty_ft B ct pt R) (hRN : ∀ t u, R t u → t < NT ∧ u < NT) (hr : R tt uu) (hX : rd_i (B 4) ct (ru (Lv - 1)) 5 tt uu p (-1) 0 0 B = .inr q) (ho : PVo am hd S (Fq F0) (ru (Lv - 1)) J ni (mo_ut (hp J) (al uu)) (sz uu) (rd_i (B 4) ct (ru (Lv - 1)) 5 tt uu p (-1) 0 0 B) S9) : HA am hd S9 (pe_B True (PVw (Fq F0) (ru (Lv - 1)) J (mo_ut (hp J) (al uu)) (sz uu) q).2 102) fr0 (lnB (pe_B True (PVw (Fq F0) (ru (Lv - 1)) J (mo_ut (hp J) (al uu)) (sz uu) q).2 102)) ni := by
  have H0 := H
  obtain ⟨a1, a2, a3, a4, ⟨a5, a6⟩, a7, a8, a9, a10⟩ := H
  have hn6 := a4.1.2.2
  have hi : ru (Lv - 1) < ni := (a9.2.1 _ (by omega)).2.2.1
  obtain ⟨r1, r2, r3, r4, r5, r6⟩ := rd_all (H0.rc hi hR hRN) a2.2.2.2.2.1 H0.k11 a5.2 hr hX
  obtain ⟨q', S1, e, -, n0, kp, h14, hWM, eS9⟩ := ho
  rw [hX] at e
  cases e
  have hO : ∀ x y, ¬ q.2 16 x = 0 → ¬ q.2 18 x = 0 → ¬ q.2 16 y = 0 → ¬ q.2 18 y = 0 → q.2 17 x = q.2 17 y → x = y := by
    rw [r2 16 (by decide) (by decide) (by omega) (by omega), r2 17 (by decide) (by decide) (by omega) (by omega), r2 18 (by decide) (by decide) (by omega) (by omega)]
    exact a6.2.2.2.2.1
  have hWP := wl_WP r5 (i := ru (Lv - 1)) (J := J) (by omega) (by omega) q.1 0 _ _ (by omega) (WP.b0 r5 r6 hO) n0
  exact HA.pe (z := True) trivial hn6 hi hJ hiJ hWM r5 hWP eS9
/-- a value is passed: its end on both sides -/
theorem RR.pass {R : Nat → Nat → Prop} {J tt uu : Nat} {p y : Int32} {F0 F2 : Nat → Int32} {B0 B2 : Nat → Nat → Int32} {Fc : Nat → Nat → Int32} (H : RR hd K am N S F B NT ni nf nd Lv Md ct dp pt sz al dr hm ar rs ru cf hp) (hL : 0 < Lv) (hJ : J < ni) (hiJ : ru (Lv - 1) ≠ J) (hR : ty_ft B ct pt R) (hRN : ∀ t u, R t u → t < NT ∧ u < NT) (hr : R tt uu) (hF0 : ∀ f, f = 1 ∨ f = 10 ∨ f = 12 ∨ f = 22 ∨ f = 25 ∨ f = 29 ∨ f = 33 ∨ f = 34 ∨ f = 35 → F0 f = F f) (hFc : Fc = Fq F0) (ag : mo_ag B B0) (hq : ps_q F0 B0 (ru (Lv - 1)) J (hp J) (sz uu) (al uu) (rd_e (B0 4) ct (ru (Lv - 1)) 5 (nI tt, nI uu, 1, p, -1, 0) 0 B0) y F2 B2) :
    (∀ k, k ≠ 36 → k ≠ 43 → k ≠ 52 → k ≠ 54 → k ≠ 55 → F2 k = F0 k) ∧ (∀ f, ps_un f → B2 f = B f) ∧ (∀ S9, PVn K am N hd ks S Fc B (ru (Lv - 1)) J ni Lv (mo_ut (hp J) (al uu)) (sz uu) (rd_i (B 4) ct (ru (Lv - 1)) 5 tt uu p (-1) 0 0 B) S9 → ¬ F2 54 ≤ 0 ∧ S9.1 14 0 = .int (F2 54) ∧ ∀ Fr z, F2 52 = nI Fr → Fr ≤ 16 → (F2 54 = 11 ∨ F2 54 = 12 → z = J) → (¬ (F2 54 = 11 ∨ F2 54 = 12) → z = ru (Lv - 1)) → RR hd K am N S9 (mo_tF F2 (F2 54) (F2 55) (nI z)) (mo_tB B2 Fr Lv z) NT ni nf nd 0 Md ct dp pt sz al dr hm ar rs ru cf (fun _ => 128))
    ∧ (∀ S9, PVo am hd S Fc (ru (Lv - 1)) J ni (mo_ut (hp J) (al uu)) (sz uu) (rd_i (B 4) ct (ru (Lv - 1)) 5 tt uu p (-1) 0 0 B) S9 → F2 54 = 0 ∧ y = nI (mo_ut (hp J) (al uu)) ∧ (∃ hpn, RRx hd K am N S9 F2 B2 NT ni nf nd Lv Md ct dp pt sz al dr hm ar rs ru cf (va_up hp J hpn)) ∧ ∃ q, rd_i (B 4) ct (ru (Lv - 1)) 5 tt uu p (-1) 0 0 B = .inr q ∧ GH B B2 (ru (Lv - 1)) J (∃ k, k < q.1 ∧ kdI q.2 k = 12) ∧ mo_ag (pe_B True (PVw Fc (ru (Lv - 1)) J (mo_ut (hp J) (al uu)) (sz uu) q).2 102) B2) := by
  subst hFc
  have H0 := H
  obtain ⟨a1, a2, a3, a4, ⟨a5, a6⟩, a7, a8, a9, a10⟩ := H
  have h32 := a2.1.1
  have hn6 := a4.1.2.2
  have hf12 := a8.1.2.2
  obtain ⟨i, ei⟩ : ∃ i, i = ru (Lv - 1) := ⟨_, rfl⟩
  rw [← ei] at hiJ hq ⊢
  have hi : i < ni := by rw [ei]; exact (a9.2.1 _ (by omega)).2.2.1
  obtain ⟨ht, hu⟩ := hRN _ _ hr
  have C : RC B i NT ni ct dp pt sz R := H0.rc hi hR hRN
  have h16b : ∀ x, 102 ≤ x → B 16 x = 0 := fun x hx => Decidable.byContradiction fun w => by
    obtain ⟨a, g, c1, c2, c3⟩ := a6.1 x w
    omega
  obtain ⟨pl, epl⟩ : ∃ pl, pl = mo_ut (hp J) (al uu) := ⟨_, rfl⟩
  rw [← epl]
  have h8 := a4.2.2.2.1
  have h13 := a4.2.2.2.2.1
  have h18 := a6.2.2.1
  rw [ag 4 (by omega), rd_e1 (by omega) (by omega)] at hq
  have hx := rd_i_ag (T4 := B 4) (ct := ct) (ii := i) 5 tt uu p (-1) 0 0 B B0 ag
  have un0 : ∀ f, ps_un f → B0 f = B f := fun f hf => ag f (by unfold ps_un at hf; omega)
  cases hX : rd_i (B 4) ct i 5 tt uu p (-1) 0 0 B with
  | inl r =>
    rw [hX] at hx
    rw [show rd_i (B 4) ct i 5 tt uu p (-1) 0 0 B0 = .inl r from hx] at hq
    obtain ⟨k1, k2, -⟩ := ps_kp (fun q hq => by cases hq) hq
    obtain ⟨F3, B3, f54, f55, fk, sc, e1, e2⟩ := hq
    subst e1
    subst e2
    obtain ⟨d0, d11, d12⟩ := rd_iK _ _ _ _ _ _ _ _ _ _ _ _ hX
    rw [← f54] at d0 d11 d12
    refine ⟨k1, fun f hf => (k2 f hf).trans (un0 f hf), fun S9 hn => ?_, fun S9 ho => ?_⟩
    · obtain ⟨S1, B1, fr, ln, c, p', z', kp, hE, t0, t1, hme, hA, z1, z2, hf⟩ := hn
      rcases hf with ⟨e1, e2, e3⟩ | ⟨q, e1, -⟩
      · have er : r = (c, p') := Sum.inl.inj e1
        subst er
        subst e3
        have ec : F2 54 = c := f54
        have ep : F2 55 = p' := f55
        subst ec
        subst ep
        refine ⟨d0, ?_, fun Fr z g1 g2 g3 g4 => ?_⟩
        · rw [hE.1.1 14 0 (by omega) (fun w => absurd w.1 (by decide)) (fun w => absurd w.1 (by decide))]; exact t0
        · have hc : ¬ (F2 54 = 11 ∨ F2 54 = 12) := fun w => w.elim d11 d12
          have ez : z = i := g4 hc
          have ez' : z' = i := z2 hc
          have g1' : Fr = 0 := n_eq Fr 0 (g1.symm.trans ((fk 52 (by decide) (by decide) (by decide) (by decide)).trans rfl))
          subst ez'
          subst ez
          subst g1'
          have e0 : ∀ k, k ≠ 20 → k ≠ 21 → (k < 37 ∨ 42 < k) → (k < 44 ∨ 51 < k) → B3 k = B k := fun k w1 w2 w3 w4 => (sc k w1 w2 w3 w4).trans (ag k w3)
          refine H0.trap2 hi (by omega) kp hE t0 t1 hme hA (TB1.sc e2 h8 h13 h18 h16b) (TB2.sc (fun w => d0 (by rw [w]; decide)) (fun f hf => ?_)) (fun f hf => (k2 f hf).trans (un0 f hf)) (fun f hf => ?_)
          · rw [e0 f (by omega) (by omega) (by omega) (by omega), e2 f (by omega) (by omega) (by omega) (by omega)]
          · exact (k1 f (by omega) (by omega) (by omega) (by omega) (by omega)).trans (hF0 f (by omega))
      · cases e1
    · obtain ⟨q, S1, e, -⟩ := ho
      cases e
  | inr q =>
    rw [hX] at hx
    obtain ⟨B9, e9, ag9⟩ := hx
    rw [e9] at hq
    obtain ⟨r1, r2, r3, r4, r5, r6⟩ := rd_all C a2.2.2.2.2.1 H0.k11 a5.2 hr hX
    have sc9 : mo_sc B0 B9 := fun k w1 w2 w3 w4 => (ag9 k w3).trans ((r2 k w1 w2 w3 w4).trans (ag k w3).symm)
    obtain ⟨k1, k2, -⟩ := ps_kp (fun q' hq' => by cases hq'; exact sc9) hq
    obtain ⟨Bs, agq, hq⟩ := hq
    dsimp only at agq hq
    rw [← epl] at hq
    have agB : mo_ag q.2 Bs := ag9.tr agq
    have bl : pl ≤ 1000 := by
      have s1 := (a2.2.2.2.2.1.1 uu hu).2.2.2
      have s2 := mo_ut_le (hp J) (al uu) s1.1
      have s3 := (a4.2.2.1 J (by omega)).2
      omega
    rcases hq with ⟨hov, e1, e2⟩ | ⟨hle, ey, e1, hcd, e2⟩
    · have f54 : F2 54 = 11 := by rw [e1, mo_fl, if_pos (show upd (upd (ps_F F0) 43 (nI q.fst)) 36 (nI 0) 54 = 0 from rfl)]; rfl
      have f55 : F2 55 = nI pl := by rw [e1, mo_fl, if_pos (show upd (upd (ps_F F0) 43 (nI q.fst)) 36 (nI 0) 54 = 0 from rfl)]; rfl
      have f52 : F2 52 = 0 := by rw [e1, mo_fl, if_pos (show upd (upd (ps_F F0) 43 (nI q.fst)) 36 (nI 0) 54 = 0 from rfl)]; rfl
      refine ⟨k1, fun f hf => (k2 f hf).trans (un0 f hf), fun S9 hn => ?_, fun S9 ho => ?_⟩
      · obtain ⟨S1, B1, fr, ln, c, p', z', kp, hE, t0, t1, hme, hA, z1, z2, hf⟩ := hn
        rcases hf with ⟨e, -⟩ | ⟨q', e, hf⟩
        · cases e
        · cases e
          rcases hf with ⟨-, ec, ep, eB, ef⟩ | ⟨hle, -⟩
          · subst ec ep eB ef
            refine ⟨by rw [f54]; decide, ?_, fun Fr z g1 g2 g3 g4 => ?_⟩
            · rw [hE.1.1 14 0 (by omega) (fun w => absurd w.1 (by decide)) (fun w => absurd w.1 (by decide)), f54]; exact t0
            · have ez : z = J := g3 (Or.inl f54)
              have ez' : z' = J := z1 (Or.inl rfl)
              have g1' : Fr = 0 := n_eq Fr 0 (g1.symm.trans f52)
              subst ez'
              subst ez
              subst g1'
              rw [e2] at k2 ⊢
              refine H0.trap2 hJ (by omega) kp hE (by rw [f54]; exact t0) (by rw [f55]; exact t1) hme hA (TB1.sc r2 h8 h13 h18 h16b) (TB2.sc (by rw [f54]; decide) (fun f hf => ?_)) (fun f hf => (k2 f hf).trans (un0 f hf)) (fun f hf => ?_)
              · rw [va_up_ne _ _ (by omega)]; exact agB f (by omega)
              · exact (k1 f (by omega) (by omega) (by omega) (by omega) (by omega)).trans (hF0 f (by omega))
          · omega
      · obtain ⟨q', S1, e, hle, -⟩ := ho
        omega
    · obtain ⟨w1, w2⟩ := wl_ag (ii := i) (J := J) q.1 0 (Fq F0 q.1) (pw_B q.2 J pl (sz uu)) (pw_B Bs J pl (sz uu)) (agB.pw J pl (sz uu))
      replace e1 : F2 = (wl i J q.1 0 (Fq F0 q.1) (pw_B Bs J pl (sz uu))).1 := e1
      replace e2 : B2 = pe_B (F2 54 = 0) (wl i J q.1 0 (Fq F0 q.1) (pw_B Bs J pl (sz uu))).2 102 := e2
      rw [w1] at e1
      replace e1 : F2 = (PVw (Fq F0) i J pl (sz uu) q).1 := e1
      replace w2 : mo_ag (PVw (Fq F0) i J pl (sz uu) q).2 (wl i J q.1 0 (Fq F0 q.1) (pw_B Bs J pl (sz uu))).2 := w2
      obtain ⟨T1, hWL⟩ := TB1.wr (i := i) (F := F0) hn6 hJ a2.2.2.1 a2.2.2.2.1 a2.2.2.2.2.1 h8 h13 h18 h16b r1 r2 r3 r4 hu hle r5
      refine ⟨k1, fun f hf => (k2 f hf).trans (un0 f hf), fun S9 hn => ?_, fun S9 ho => ?_⟩
      · obtain ⟨S1, B1, fr, ln, c, p', z', kp, hE, t0, t1, hme, hA, z1, z2, hf⟩ := hn
        rcases hf with ⟨e, -⟩ | ⟨q', e, hf⟩
        · cases e
        · cases e
          rcases hf with ⟨hov, -⟩ | ⟨-, n0, ec, ep, eB, ef⟩
          · omega
          · rw [← e1] at n0 ec ep
            subst ec ep eB ef
            have d0 : ¬ F2 54 ≤ 0 := by
              rcases hcd with w | w | w
              · exact absurd w n0
              · rw [w]; decide
              · rw [w]; decide
            refine ⟨d0, ?_, fun Fr z g1 g2 g3 g4 => ?_⟩
            · rw [hE.1.1 14 0 (by omega) (fun w => absurd w.1 (by decide)) (fun w => absurd w.1 (by decide))]; exact t0
            · have ezz : z' = z := by
                by_cases w : F2 54 = 11 ∨ F2 54 = 12
                · rw [g3 w, z1 w]
                · rw [g4 w, z2 w]
              have hz : z < ni := by
                by_cases w : F2 54 = 11 ∨ F2 54 = 12
                · rw [g3 w]; exact hJ
                · rw [g4 w]; exact hi
              subst ezz
              rw [e2] at k2
              rw [e2]
              refine H0.trap2 hz (by omega) kp hE t0 t1 hme hA T1 (TB2.wr n0 w2 hWL (by rw [← e1]; exact g1) g2) (fun f hf => (k2 f hf).trans (un0 f hf)) (fun f hf => ?_)
              exact (k1 f (by omega) (by omega) (by omega) (by omega) (by omega)).trans (hF0 f (by omega))
      · obtain ⟨q', S1, e, -, n0, kp, h14, hWM, eS9⟩ := ho
        cases e
        rw [← e1] at n0
        have hO : ∀ x y, ¬ q.2 16 x = 0 → ¬ q.2 18 x = 0 → ¬ q.2 16 y = 0 → ¬ q.2 18 y = 0 → q.2 17 x = q.2 17 y → x = y := by
          rw [r2 16 (by decide) (by decide) (by omega) (by omega), r2 17 (by decide) (by decide) (by omega) (by omega), r2 18 (by decide) (by decide) (by omega) (by omega)]
          exact a6.2.2.2.2.1
        have hWP : WP q.2 i J q.1 q.1 (PVw (Fq F0) i J pl (sz uu) q).2 := wl_WP r5 (by omega) (by omega) q.1 0 _ _ (by omega) (WP.b0 r5 r6 hO) (by rw [e1] at n0; exact n0)
        obtain ⟨m1, m2, m3, m4, -⟩ := pv_mem (i := i) (J := J) (F := F0) hn6 hJ a2.2.2.1 a2.2.2.2.1 a2.2.2.2.2.1 h8 h13 r1 r2 r3 r4 hu hle
        obtain ⟨hpn, hpn1, hpn2⟩ := m4 (by rw [e1] at n0; exact n0)
        have agC : mo_ag (pe_B (F2 54 = 0) (PVw (Fq F0) i J pl (sz uu) q).2 102) B2 := by rw [e2]; exact w2.pe _ _
        have hA9 := HA.pe (z := F2 54 = 0) n0 hn6 hi hJ hiJ hWM r5 hWP eS9
        have hk9 : hkp S1 S9 := by rw [eS9]; exact (hh_ch_k (by omega) 16 (Nat.le_refl _)).tr (hh_ch_k (by omega) 16 (Nat.le_refl _))
        have kp9 : pkp J S S9 := kp.tr hk9.pk
        have kk := kpK.rf K am N
        have c2 : ∀ f, ps_un f → B2 f = B f := fun f hf => (k2 f hf).trans (un0 f hf)
        have un : ∀ f, f < 37 → f < 13 ∨ 21 < f → B2 f = B f := fun f h1 h2 => c2 f (by unfold ps_un; omega)
        have cF : ∀ f, f = 1 ∨ f = 10 ∨ f = 12 ∨ f = 22 ∨ f = 25 ∨ f = 29 ∨ f = 33 ∨ f = 34 ∨ f = 35 → F2 f = F f := fun f hf => (k1 f (by omega) (by omega) (by omega) (by omega) (by omega)).trans (hF0 f hf)
        have cP : ∀ f, f = 13 ∨ f = 14 → B2 f = (PVw (Fq F0) i J pl (sz uu) q).2 f := fun f hf => (agC f (by omega)).trans (pe_un (by omega) (by omega) (by omega))
        have e15 : B2 15 = B 15 := c2 15 (by unfold ps_un; omega)
        have g : ∀ k j, k ≠ 15 → k ≠ 16 → k ≠ 14 → ¬ (k = 10 ∧ j = 3) → ¬ (k = 200 + 20 * J ∧ j = 2) → ¬ gk k = 4 → S9.1 k j = S.1 k j := kp9.1
        have g0 : ∀ j, S9.1 0 j = S.1 0 j := fun j => g 0 j (by decide) (by decide) (by decide) (by omega) (by omega) (by decide)
        have gQ := kp9.2.2.1
        have gA : ∀ k, k ≠ 11 → k ≠ 13 → k ≠ 201 + 20 * J → S9.2.1 k = S.2.1 k := kp9.2.1
        have g14 : ∀ j, S9.1 14 j = S.1 14 j := fun j => (hk9.1 14 j (fun w => absurd w.1 (by decide))).trans (by rw [h14])
        have hT : ∀ f, 2 ≤ f → f ≤ 9 → B2 f = B f := fun f h1 h2 => un f (by omega) (by omega)
        refine ⟨n0, ey, ⟨hpn, ⟨a1.1.pk kp9, a1.2⟩, a2.tr kk (g0 1) (fun k j _ h1 h2 => ?_) (fun k _ h1 h2 => ⟨gA k (by omega) (by omega) (by omega), by rw [gQ]⟩) (fun _ _ => by rw [gQ]) hT (cF 1 (by omega)), a3.tr a2.1 kk (g0 3) (by rw [gQ]) (un 11 (by omega) (by omega)) (cF 10 (by omega)), ⟨⟨(g0 5).trans a4.1.1, (cF 12 (by omega)).trans a4.1.2.1, hn6⟩, fun a ha => ⟨(a4.2.1 a ha).1.pk (by omega) kp9, by rw [gQ]; exact (a4.2.1 a ha).2.1, ?_, ?_, fun x hx => ?_⟩, fun j hj => ?_, ?_, ?_, by rw [e15]; exact a4.2.2.2.2.2⟩, ⟨hA9.b (fun f hf => agC f (by omega)), fun x hx => ?_⟩, a7.tr (g0 12) ⟨gA 8 (by decide) (by decide) (by omega), gA 9 (by decide) (by decide) (by omega)⟩ (un 23 (by omega) (by omega)) (un 24 (by omega) (by omega)) (cF 22 (by omega)), a8.tr a2.1 kk (g0 7) (fun f j hf => ?_) (fun f _ => by rw [gQ]) (hT 2 (by omega) (by omega)) (fun f h1 h2 => un f (by omega) (by omega)) (cF 25 (by omega)), a9.tr (g0 11) (fun k h1 h2 => gA k (by omega) (by omega) (by omega)) e15 (fun f h1 h2 => un f (by omega) (by omega)) (cF 29 (by omega)), a10.tr (g14 0) (g14 1) (g0 17) ⟨cF 33 (by omega), cF 34 (by omega), cF 35 (by omega)⟩⟩, q, rfl, GH.of (z := F2 54 = 0) n0 (by omega) (by omega) r1 r2 r5 r6 hWP T1.2.2.2.2.1 h16b T1.2.2.1 agC, ?_⟩
        · have w := gk_t45 (k - 100) (by omega)
          rw [show 100 + (k - 100) = k by omega] at w
          exact g k j (by omega) (by omega) (by omega) (by omega) (by omega) w.1
        · rw [cP 14 (by omega)]
          by_cases e : a = J
          · subst e
            rw [hk9.1 _ _ (fun w => absurd w.1 (by rw [(gk_in a (by omega)).1]; decide))]
            exact hWM.2.1
          · rw [g _ _ (by omega) (by omega) (by omega) (by omega) (by omega) (by rw [(gk_in a (by omega)).1]; decide), m3 a e]
            exact (a4.2.1 a ha).2.2.1
        · rw [g _ _ (by omega) (by omega) (by omega) (by omega) (by omega) (by rw [(gk_in a (by omega)).1]; decide), e15]
          exact (a4.2.1 a ha).2.2.2.1
        · rw [hk9.2, cP 13 (by omega)]; exact hWM.1 a ha x hx
        · rw [cP 14 (by omega)]
          by_cases e : j = J
          · subst e; rw [va_up_self]; exact ⟨hpn2, hpn1⟩
          · rw [va_up_ne _ _ e, m3 j e]; exact a4.2.2.1 j hj
        · unfold mo_b8; rw [cP 13 (by omega)]; exact m1.b8
        · rw [cP 13 (by omega)]; exact m2
        · rw [agC 20 (by omega), agC 21 (by omega)]; exact ⟨pe_20 hx, pe_21 hx⟩
        · exact g (400 + f) j (by omega) (by omega) (by omega) (by omega) (by omega) (by rw [gk_fu f (by omega)]; decide)
        · rw [← pe_T (z := F2 54 = 0) n0]; exact agC
end RRp
