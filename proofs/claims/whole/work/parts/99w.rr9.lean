/-! calls and returns keep the relation -/
/-- all of the relation but who may hold what -/
def RRx (hd : Nat → Nat) (K : List Nat) (am N : Nat → Nat) (S : gS) (F : Nat → Int32) (B : Nat → Nat → Int32) (NT ni nf nd Lv Md : Nat) (ct dp : Nat → Nat) (pt : Nat → Nat → Nat) (sz al dr hm ar rs ru cf hp : Nat → Nat) : Prop :=
  rW K am N S NT ni nf ∧ rT K am N S F B NT ct dp pt sz al ∧ rD am S F B NT nd dr ∧ rI K am N S F B ni hp ∧ rH am hd S B ni ∧ rR S F B Md ∧ rF K am S F B NT ni nf ct pt hm ar rs ∧ rS S F B ni nf Lv ru cf ∧ rL S F
section RRc
variable {K : List Nat} {am N hd : Nat → Nat} {S S' : gS} {F F' : Nat → Int32} {B B' : Nat → Nat → Int32} {NT ni nf nd Lv Md : Nat} {ct dp sz al dr hm ar rs ru cf hp : Nat → Nat} {pt : Nat → Nat → Nat}
theorem RRx.push {i ff : Nat} {f p : Int32} (h : RRx hd K am N S F B NT ni nf nd Lv Md ct dp pt sz al dr hm ar rs ru cf hp) (hi : i < ni) (hL : Lv < 6) (h15 : ¬ B 15 i = 1) (hf : 1 ≤ Lv → f = nI ff ∧ ff < nf) (hB : ∀ f, f ≠ 15 → f ≠ 30 → f ≠ 31 → f ≠ 32 → B' f = B f) (e30 : B' 30 = upd (B 30) Lv (nI i)) (e31 : B' 31 = upd (B 31) Lv f) (e32 : B' 32 = upd (B 32) Lv p) (e15 : B' 15 = upd (B 15) i 1) (h29 : F' 29 = nI (Lv + 1)) (hF : ∀ f, f = 1 ∨ f = 10 ∨ f = 12 ∨ f = 22 ∨ f = 25 ∨ f = 33 ∨ f = 34 ∨ f = 35 → F' f = F f) (hM : rM B' ni Md (Lv + 1) (va_up ru Lv i)) : RR hd K am N (hs_pu S Lv i f p) F' B' NT ni nf nd (Lv + 1) Md ct dp pt sz al dr hm ar rs (va_up ru Lv i) (va_up cf Lv ff) hp := by
  obtain ⟨a1, a2, a3, a4, a5, a7, a8, a9, a10⟩ := h
  have kk := kpK.rf K am N
  have hn6 := a4.1.2.2
  have g : ∀ k j, ¬ (k = 0 ∧ j = 11) → ¬ (k = 200 + 20 * i ∧ j = 3) → (hs_pu S Lv i f p).1 k j = S.1 k j := fun k j => hs_pu_g
  exact ⟨a1.tr (fun j _ _ _ _ h11 _ _ => g 0 j (by omega) (by omega)) (fun j _ => g 10 j (by omega) (by omega)), a2.tr kk (g 0 1 (by omega) (by omega)) (fun k j _ _ _ => g k j (by omega) (by omega)) (fun k _ _ _ => ⟨hs_pu_a (by omega) (by omega) (by omega), rfl⟩) (fun _ _ => rfl) (fun f _ _ => hB f (by omega) (by omega) (by omega) (by omega)) (hF 1 (by omega)), a3.tr a2.1 kk (g 0 3 (by omega) (by omega)) rfl (hB 11 (by omega) (by omega) (by omega) (by omega)) (hF 10 (by omega)), a4.push hi (hB 13 (by omega) (by omega) (by omega) (by omega)) (hB 14 (by omega) (by omega) (by omega) (by omega)) e15 (hF 12 (by omega)), ⟨a5.tr (fun i hi => (a4.2.1 i hi).1) kk (fun a h j _ _ => g _ j (by omega) (by omega)) (fun f _ _ => hB f (by omega) (by omega) (by omega) (by omega)), hM⟩, a7.tr (g 0 12 (by omega) (by omega)) ⟨hs_pu_a (by omega) (by omega) (by omega), hs_pu_a (by omega) (by omega) (by omega)⟩ (hB 23 (by omega) (by omega) (by omega) (by omega)) (hB 24 (by omega) (by omega) (by omega) (by omega)) (hF 22 (by omega)), a8.tr a2.1 kk (g 0 7 (by omega) (by omega)) (fun f j _ => g _ j (by omega) (by omega)) (fun _ _ => rfl) (hB 2 (by omega) (by omega) (by omega) (by omega)) (fun f _ _ => hB f (by omega) (by omega) (by omega) (by omega)) (hF 25 (by omega)), a9.push hi (by omega) hL h15 hf e30 e31 e32 e15 h29, a10.tr (g 14 0 (by omega) (by omega)) (g 14 1 (by omega) (by omega)) (g 0 17 (by omega) (by omega)) ⟨hF 33 (by omega), hF 34 (by omega), hF 35 (by omega)⟩⟩
theorem RRx.pop {i pl : Nat} (h : RRx hd K am N S F B NT ni nf nd Lv Md ct dp pt sz al dr hm ar rs ru cf hp) (hL : 2 ≤ Lv) (ei : ru (Lv - 1) = i) (hB : ∀ f, f ≠ 14 → f ≠ 15 → f ≠ 32 → B' f = B f) (e14 : B' 14 = upd (B 14) i 128) (e15 : B' 15 = upd (B 15) i 0) (e32 : B' 32 = upd (B 32) (Lv - 2) (nI pl)) (h29 : F' 29 = nI (Lv - 1)) (hF : ∀ f, f = 1 ∨ f = 10 ∨ f = 12 ∨ f = 22 ∨ f = 25 ∨ f = 33 ∨ f = 34 ∨ f = 35 → F' f = F f) (hM : rM B' ni Md (Lv - 1) ru) : RR hd K am N (gsA (hs_po S Lv i) 7 (Lv - 2) (nI pl)) F' B' NT ni nf nd (Lv - 1) Md ct dp pt sz al dr hm ar rs ru cf (va_up hp i 128) := by
  obtain ⟨a1, a2, a3, a4, a5, a7, a8, a9, a10⟩ := h
  have kk := kpK.rf K am N
  have hn6 := a4.1.2.2
  have hi : i < ni := by rw [← ei]; exact (a9.2.1 _ (by omega)).2.2.1
  have g : ∀ k j, ¬ (k = 0 ∧ j = 11) → ¬ (k = 200 + 20 * i ∧ (j = 2 ∨ j = 3)) → (gsA (hs_po S Lv i) 7 (Lv - 2) (nI pl)).1 k j = S.1 k j := fun k j h1 h2 => hs_po_g h1 h2
  have gA : ∀ k, k ≠ 7 → (gsA (hs_po S Lv i) 7 (Lv - 2) (nI pl)).2.1 k = S.2.1 k := fun k hk => by
    show up2 S.2.1 7 (Lv - 2) (nI pl) k = _
    rw [up2_ne _ _ hk]
  have g7 : (gsA (hs_po S Lv i) 7 (Lv - 2) (nI pl)).2.1 7 = va_up (S.2.1 7) (Lv - 2) (nI pl) := by
    show up2 S.2.1 7 (Lv - 2) (nI pl) 7 = _
    rw [up2_self]
  refine ⟨a1.tr (fun j _ _ _ _ h11 _ _ => g 0 j (by omega) (by omega)) (fun j _ => g 10 j (by omega) (by omega)), a2.tr kk (g 0 1 (by omega) (by omega)) (fun k j _ _ _ => g k j (by omega) (by omega)) (fun k _ _ _ => ⟨gA k (by omega), rfl⟩) (fun _ _ => rfl) (fun f _ _ => hB f (by omega) (by omega) (by omega)) (hF 1 (by omega)), a3.tr a2.1 kk (g 0 3 (by omega) (by omega)) rfl (hB 11 (by omega) (by omega) (by omega)) (hF 10 (by omega)), a4.pop hi (g 0 5 (by omega) (by omega)) ?_ ?_ (fun a j ha hj hn => g _ j (by omega) (by omega)) (fun a _ => gA _ (by omega)) rfl (hB 13 (by omega) (by omega) (by omega)) e14 e15 (hF 12 (by omega)), ⟨a5.tr (fun i hi => (a4.2.1 i hi).1) kk (fun a h j _ _ => g _ j (by omega) (by omega)) (fun f _ _ => hB f (by omega) (by omega) (by omega)), hM⟩, a7.tr (g 0 12 (by omega) (by omega)) ⟨gA 8 (by decide), gA 9 (by decide)⟩ (hB 23 (by omega) (by omega) (by omega)) (hB 24 (by omega) (by omega) (by omega)) (hF 22 (by omega)), a8.tr a2.1 kk (g 0 7 (by omega) (by omega)) (fun f j _ => g _ j (by omega) (by omega)) (fun _ _ => rfl) (hB 2 (by omega) (by omega) (by omega)) (fun f _ _ => hB f (by omega) (by omega) (by omega)) (hF 25 (by omega)), a9.pop (by omega) ?_ h29 (gA 5 (by decide)) (gA 6 (by decide)) (fun k hk => ?_) (by rw [ei]; exact e15) (hB 30 (by omega) (by omega) (by omega)) (hB 31 (by omega) (by omega) (by omega)), a10.tr (g 14 0 (by omega) (by omega)) (g 14 1 (by omega) (by omega)) (g 0 17 (by omega) (by omega)) ⟨hF 33 (by omega), hF 34 (by omega), hF 35 (by omega)⟩⟩
  · show (hs_po S Lv i).1 (200 + 20 * i) 2 = _
    rw [hs_po, gsG_nj (Or.inl (by omega))]
    first
      | exact gsG_eq _ _ _ _
      | (rw [gsG_nj (Or.inr (by decide))]; exact gsG_eq _ _ _ _)
  · show (hs_po S Lv i).1 (200 + 20 * i) 3 = _
    rw [hs_po, gsG_nj (Or.inl (by omega))]
    first
      | exact gsG_eq _ _ _ _
      | (rw [gsG_nj (Or.inr (by decide))]; exact gsG_eq _ _ _ _)
  · show (hs_po S Lv i).1 0 11 = _
    rw [hs_po]; exact gsG_eq _ _ _ _
  · rw [g7, e32]
    by_cases e : k = Lv - 2
    · subst e; rw [va_up_self, upd_eq]
    · rw [va_up_ne _ _ e, upd_ne e]; exact (a9.2.1 k (by omega)).2.2.2.2
/-- behind the end of all calls -/
theorem RR.trap2 {J z Fr : Nat} {S1 S9 : gS} {B1 B2 : Nat → Nat → Int32} {F2 : Nat → Int32} {fr : Nat → Bool} {ln : Nat → Int32} {c p : Int32} (H : RR hd K am N S F B NT ni nf nd Lv Md ct dp pt sz al dr hm ar rs ru cf hp) (hz : z < ni) (hJ : J < 6) (kp : pkp J S S1) (hE : EAQ hd S1 S9 z ni Lv (B 15) (B 30) (fun a h => hof B1 fr (17 * a + h + 1))) (t0 : S1.1 14 0 = .int c) (t1 : S1.1 14 1 = .int p) (hme : ∀ j, j < ni → me_R S1 B1 j) (hA : HA am hd S1 B1 fr ln ni)
    (T1 : TB1 B B1 fr ni) (T2 : TB2 B1 fr B2 Fr) (hB : ∀ f, ps_un f → B2 f = B f) (hF : ∀ f, f = 1 ∨ f = 10 ∨ f = 12 ∨ f = 22 ∨ f = 25 → F2 f = F f) : RR hd K am N S9 (mo_tF F2 c p (nI z)) (mo_tB B2 Fr Lv z) NT ni nf nd 0 Md ct dp pt sz al dr hm ar rs ru cf (fun _ => 128) := by
  obtain ⟨p1, p2, p3, p4, p5, p6⟩ := T1
  obtain ⟨r1, r2, r3, r4⟩ := T2
  have un : ∀ f, f < 37 → f < 13 ∨ 21 < f → ps_un f := fun f h1 h2 => by unfold ps_un; omega
  have m16 : ∀ x, x < 102 → (¬ mo_tB B2 Fr Lv z 16 x = 0 ↔ (¬ B1 16 x = 0 ∧ ¬ B1 18 x = 0 ∧ fr x = false)) := fun x hx => by
    rw [tB_16 hx, r2 x, r1 18 (by omega)]
    constructor
    · rintro ⟨w1, w2, w3⟩
      refine ⟨w1, w2, ?_⟩
      cases hf : fr x with
      | false => rfl
      | true => exact absurd ((r3 x hx w1).mpr hf) w3
    · rintro ⟨w1, w2, w3⟩
      refine ⟨w1, w2, fun w => ?_⟩
      rw [(r3 x hx w1).mp w] at w3
      exact absurd w3 (by decide)
  have m102 : ∀ x, ¬ mo_tB B2 Fr Lv z 16 x = 0 → x < 102 := fun x hx => Nat.lt_of_not_le fun w => hx (by
    have e : mo_tB B2 Fr Lv z 16 x = mo_t2 (mo_t1 (B2 16) (B2 53) Fr) (B2 18) 102 x := by
      rw [mo_tB, va_up_ne _ _ (by decide), va_up_ne _ _ (by decide), va_up_ne _ _ (by decide), va_up_self]
    rw [e, t2_at, if_neg (by omega)]
    have b0 : B2 16 x = 0 := Decidable.byContradiction fun y => ((r2 x).mp y) (p5 x w)
    obtain ⟨t1, t2⟩ := t1_at (B2 16) (B2 53) x Fr
    by_cases d : ∃ j, j < Fr ∧ (B2 53 j).toNatClampNeg = x
    · exact t1 d
    · rw [t2 d]; exact b0)
  refine H.trap hz hJ kp hE t0 t1 hme hA p6 (by rw [tB_ne (by decide) (by decide) (by decide)]; exact r1 13 (by omega)) (by unfold mo_b8; rw [tB_ne (by decide) (by decide) (by decide), r1 13 (by omega)]; exact p1) (by rw [tB_ne (by decide) (by decide) (by decide), r1 13 (by omega)]; exact p2) (fun j hj => ?_) ?_ m16 (fun f hf x _ => by rw [tB_ne (by omega) (by omega) (by omega), r1 f (by omega)]) (fun x hx => by rw [tB_ne (by decide) (by decide) (by decide), tB_ne (by decide) (by decide) (by decide)]; exact r4 x hx) (fun x hx => ?_) (by rw [tB_ne (by decide) (by decide) (by decide), r1 18 (by omega)]; exact p3) (fun f h1 h2 => by rw [tB_ne (by omega) (by omega) (by omega)]; exact hB f (un f h1 h2)) rfl rfl rfl rfl (fun f hf => ?_)
  · rw [mo_tB, va_up_ne _ _ (by decide), va_up_self, t4_at, if_pos hj]
  · rw [mo_tB, va_up_self, hB 15 (by unfold ps_un; omega), hB 30 (un 30 (by omega) (by omega))]
  · obtain ⟨w1, w2, w3⟩ := (m16 x (m102 x hx)).mp hx
    obtain ⟨v1, v2, v3⟩ := p4 x w1 w3
    rw [tB_ne (by decide) (by decide) (by decide), tB_ne (by decide) (by decide) (by decide), r1 17 (by omega), r1 18 (by omega)]
    exact ⟨v1, by rw [← v3]; exact w2, v2, w2⟩
  · rw [mo_tF, upd_ne (by omega), upd_ne (by omega), upd_ne (by omega), upd_ne (by omega), upd_ne (by omega)]; exact hF f hf
theorem RR.k11 (H : RR hd K am N S F B NT ni nf nd Lv Md ct dp pt sz al dr hm ar rs ru cf hp) : ∀ t, t < NT → ¬ B 2 t ≤ 10 → B 2 t = 11 ∨ B 2 t = 12 := fun t ht hx => by
  obtain ⟨kd, k1, k2⟩ := H.2.1.1.kd ht
  rw [k2] at hx ⊢
  have := n_nle kd 10 hx
  obtain rfl | rfl : kd = 11 ∨ kd = 12 := by omega
  · exact Or.inl rfl
  · exact Or.inr rfl
theorem RR.rc {R : Nat → Nat → Prop} {i : Nat} (H : RR hd K am N S F B NT ni nf nd Lv Md ct dp pt sz al dr hm ar rs ru cf hp) (hi : i < ni) (hR : ty_ft B ct pt R) (hRN : ∀ t u, R t u → t < NT ∧ u < NT) : RC B i NT ni ct dp pt sz R := by
  obtain ⟨a1, a2, a3, a4, ⟨a5, a6⟩, a7, a8, a9, a10⟩ := H
  exact ⟨⟨hi, a4.1.2.2⟩, a4.2.2.2.1, a2.2.2.1, a2.2.2.2.1, hR, hRN, fun t ht => ⟨(a2.2.2.2.2.1.1 t ht).1, (a2.2.2.2.2.1.1 t ht).2.1, (a2.2.2.2.2.2 t ht).2.2.1, al t, (a2.2.2.2.2.2 t ht).1, (a2.2.2.2.2.1.1 t ht).2.2.1⟩, a2.2.2.2.2.1.2⟩
theorem RR.ph {R : Nat → Nat → Prop} {J : Nat} (H : RR hd K am N S F B NT ni nf nd Lv Md ct dp pt sz al dr hm ar rs ru cf hp) (hL : 0 < Lv) (hJ : J < ni) (hiJ : ru (Lv - 1) ≠ J) (hR : ty_ft B ct pt R) (hRN : ∀ t u, R t u → t < NT ∧ u < NT) : PH K am N hd S B (ru (Lv - 1)) J NT ni Lv (hp J) ct dp pt sz al ru R := by
  have H0 := H
  obtain ⟨a1, a2, a3, a4, ⟨a5, a6⟩, a7, a8, a9, a10⟩ := H
  have h32 := a2.1.1
  have hn6 := a4.1.2.2
  have b14 := a4.2.2.1 J (by omega)
  refine ⟨⟨a1.1, fun z => by have := a1.2 _ z; omega, fun z => by have := a1.2 _ z; omega⟩, ⟨hL, a9.1.2.2, a9.1.1, fun k hk => ⟨(a9.2.1 k hk).1, (a9.2.1 k hk).2.2.1, (a9.2.1 k hk).2.1⟩, rfl⟩, ⟨a4.1.1, fun j hj => ⟨(a4.2.1 j hj).1, (a4.2.1 j hj).2.1, (a4.2.1 j hj).2.2.2.1⟩⟩, fun j hj => (a4.2.1 j hj).2.2.2.2, ⟨by rw [(a4.2.1 J hJ).2.2.1, b14.1], b14.1, b14.2⟩, a2.1, H0.rc (a9.2.1 _ (by omega)).2.2.1 hR hRN, a2.2.2.2.2.1, fun t ht => (a2.2.2.2.2.2 t ht).1, a5.1, a5.2, ⟨hJ, hiJ⟩, fun x h1 h2 h0 => a6.ln0 hn6 a5.2 (by omega) h0⟩
end RRc
