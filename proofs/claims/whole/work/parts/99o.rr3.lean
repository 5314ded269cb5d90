/-! the stack and the handles: calls keep the relation -/
section RRp
variable {K : List Nat} {am N hd : Nat → Nat} {S S' : gS} {F F' : Nat → Int32} {B B' : Nat → Nat → Int32} {NT ni nf nd Lv Md : Nat} {ct dp sz al dr hm ar rs ru cf hp : Nat → Nat} {pt : Nat → Nat → Nat}
theorem hs_pu_g {i : Nat} {f p : Int32} {k j : Nat} (h1 : ¬ (k = 0 ∧ j = 11)) (h2 : ¬ (k = 200 + 20 * i ∧ j = 3)) : (hs_pu S Lv i f p).1 k j = S.1 k j := by
  rw [hs_pu, gsG_nj (by omega)]
  show (gsG (gsA (gsA (gsA S 5 Lv (nI i)) 6 Lv f) 7 Lv p) 0 11 (.int (nI (Lv + 1)))).1 k j = _
  rw [gsG_nj (by omega)]
  rfl
theorem hs_pu_a {i : Nat} {f p : Int32} {k : Nat} (h5 : k ≠ 5) (h6 : k ≠ 6) (h7 : k ≠ 7) : (hs_pu S Lv i f p).2.1 k = S.2.1 k := by
  show up2 (up2 (up2 S.2.1 5 Lv (nI i)) 6 Lv f) 7 Lv p k = _
  rw [up2_ne _ _ h7, up2_ne _ _ h6, up2_ne _ _ h5]
theorem hs_pu_5 {i k : Nat} {f p : Int32} : (hs_pu S Lv i f p).2.1 5 k = if k = Lv then nI i else S.2.1 5 k := by
  show up2 (up2 (up2 S.2.1 5 Lv (nI i)) 6 Lv f) 7 Lv p 5 k = _
  rw [up2_ne _ _ (by decide), up2_ne _ _ (by decide), up2_self]
  by_cases e : k = Lv
  · subst e; rw [va_up_self, if_pos rfl]
  · rw [va_up_ne _ _ e, if_neg e]
theorem hs_pu_6 {i k : Nat} {f p : Int32} : (hs_pu S Lv i f p).2.1 6 k = if k = Lv then f else S.2.1 6 k := by
  show up2 (up2 (up2 S.2.1 5 Lv (nI i)) 6 Lv f) 7 Lv p 6 k = _
  rw [up2_ne _ _ (by decide), up2_self]
  by_cases e : k = Lv
  · subst e; rw [va_up_self, if_pos rfl]
  · rw [va_up_ne _ _ e, if_neg e, up2_ne _ _ (by decide)]
theorem hs_pu_7 {i k : Nat} {f p : Int32} : (hs_pu S Lv i f p).2.1 7 k = if k = Lv then p else S.2.1 7 k := by
  show up2 (up2 (up2 S.2.1 5 Lv (nI i)) 6 Lv f) 7 Lv p 7 k = _
  rw [up2_self]
  by_cases e : k = Lv
  · subst e; rw [va_up_self, if_pos rfl]
  · rw [va_up_ne _ _ e, if_neg e, up2_ne _ _ (by decide), up2_ne _ _ (by decide)]
theorem rS.push {i ff : Nat} {f p : Int32} (h : rS S F B ni nf Lv ru cf) (hi : i < ni) (hi6 : i < 6) (hL : Lv < 6) (hn : ¬ B 15 i = 1) (hf : 1 ≤ Lv → f = nI ff ∧ ff < nf) (e30 : B' 30 = upd (B 30) Lv (nI i)) (e31 : B' 31 = upd (B 31) Lv f) (e32 : B' 32 = upd (B 32) Lv p) (e15 : B' 15 = upd (B 15) i 1) (h29 : F' 29 = nI (Lv + 1)) : rS (hs_pu S Lv i f p) F' B' ni nf (Lv + 1) (va_up ru Lv i) (va_up cf Lv ff) := by
  obtain ⟨⟨a1, a2, a3⟩, a4, a5, a6, a7, a8⟩ := h
  have ne : ∀ k, k < Lv → ru k ≠ i := fun k hk z => hn (by rw [← z]; exact (a4 k hk).2.2.2.1)
  refine ⟨⟨(gsG_nj (Or.inl (by omega))).trans (gsG_eq _ _ _ _), h29, by omega⟩, fun k hk => ?_, fun k k1 hk => ?_, fun k k' h1 h2 => ?_, fun j hj h15 => ?_, fun k hk => ?_⟩
  · rw [hs_pu_5, hs_pu_7, e30, e32, e15]
    by_cases e : k = Lv
    · subst e; rw [if_pos rfl, if_pos rfl, upd_eq, upd_eq, va_up_self, upd_eq]; exact ⟨rfl, rfl, hi, rfl, rfl⟩
    · obtain ⟨b1, b2, b3, b4, b5⟩ := a4 k (by omega)
      rw [if_neg e, if_neg e, upd_ne e, upd_ne e, va_up_ne _ _ e, upd_ne (ne k (by omega))]
      exact ⟨b1, b2, b3, b4, b5⟩
  · rw [hs_pu_6, e31]
    by_cases e : k = Lv
    · subst e; rw [if_pos rfl, upd_eq, va_up_self]; exact ⟨(hf k1).1, (hf k1).1, (hf k1).2⟩
    · rw [if_neg e, upd_ne e, va_up_ne _ _ e]; exact a5 k k1 (by omega)
  · rw [va_up_ne _ _ (show k ≠ Lv by omega)]
    by_cases e : k' = Lv
    · subst e; rw [va_up_self]; exact ne k h1
    · rw [va_up_ne _ _ e]; exact a6 k k' h1 (by omega)
  · rw [e15] at h15
    by_cases e : j = i
    · subst e; exact ⟨Lv, by omega, va_up_self _ _ _⟩
    · rw [upd_ne e] at h15
      obtain ⟨k, k1, k2⟩ := a7 j hj h15
      exact ⟨k, by omega, by rw [va_up_ne _ _ (by omega)]; exact k2⟩
  · rw [e30]
    by_cases e : k = Lv
    · subst e; rw [upd_eq]; exact vp_in_nI hi6 (by decide)
    · rw [upd_ne e]; exact a8 k hk
theorem rI.push {i : Nat} {f p : Int32} (h : rI K am N S F B ni hp) (hi : i < ni) (e13 : B' 13 = B 13) (e14 : B' 14 = B 14) (e15 : B' 15 = upd (B 15) i 1) (hF : F' 12 = F 12) : rI K am N (hs_pu S Lv i f p) F' B' ni hp := by
  obtain ⟨⟨a1, a2, a3⟩, a4, a5, a6, a7, a8⟩ := h
  refine ⟨⟨(hs_pu_g (by omega) (by omega)).trans a1, hF.trans a2, a3⟩, fun j hj => ?_, by rw [e14]; exact a5, by unfold mo_b8; rw [e13]; exact a6, by rw [e13]; exact a7, fun j => ⟨fun hj => ?_, by rw [e15]; exact st4_up (a8 j).2 (Or.inr (Or.inl rfl))⟩⟩
  · obtain ⟨b1, b2, b3, b4, b5⟩ := a4 j hj
    refine ⟨b1.of (fun j' h' => hs_pu_g (by omega) (by omega)) rfl, b2, ?_, ?_, fun a ha => ?_⟩
    · rw [hs_pu_g (by omega) (by omega), e14]; exact b3
    · rw [e15]
      by_cases e : j = i
      · subst e; rw [upd_eq]; exact gsG_eq _ _ _ _
      · rw [upd_ne e, hs_pu_g (by omega) (by omega)]; exact b4
    · rw [hs_pu_a (by omega) (by omega) (by omega), e13]; exact b5 a ha
  · rw [e15, upd_ne (by omega)]; exact (a8 j).1 hj
theorem rM.push {i : Nat} (h : rM B ni Md Lv ru) (hB : ∀ f, 16 ≤ f → f ≤ 19 → B' f = B f) (h24 : B' 24 = B 24) : rM B' ni Md (Lv + 1) (va_up ru Lv i) := by
  obtain ⟨a1, a2, a3, a4, a5, a6⟩ := h.tr hB h24
  refine ⟨a1, a2, a3, a4, a5, fun x hx hx2 => ?_⟩
  obtain ⟨k, h, h', k1, k2, h1, ex, h2, e19, hu⟩ := a6 x hx hx2
  refine ⟨k, h, h', k1, by omega, h1, ?_, h2, ?_, ?_⟩
  · rw [va_up_ne _ _ (by omega)]; exact ex
  · rw [va_up_ne _ _ (by omega)]; exact e19
  · rw [va_up_ne _ _ (by omega)]; exact hu
theorem RR.enter {i : Nat} (h : RR hd K am N S F B NT ni nf nd Lv Md ct dp pt sz al dr hm ar rs ru cf hp) (hi : i < ni) (hL : Lv = 0) (h15 : B 15 i = 0) (hB : ∀ f, f ≠ 15 → f ≠ 30 → f ≠ 31 → f ≠ 32 → B' f = B f) (e30 : B' 30 = upd (B 30) Lv (nI i)) (e31 : B' 31 = upd (B 31) Lv (-1)) (e32 : B' 32 = upd (B 32) Lv (-1)) (e15 : B' 15 = upd (B 15) i 1) (h29 : F' 29 = nI (Lv + 1)) (hF : ∀ f, f = 1 ∨ f = 10 ∨ f = 12 ∨ f = 22 ∨ f = 25 ∨ f = 33 ∨ f = 34 ∨ f = 35 → F' f = F f) : RR hd K am N (hs_pu S Lv i (-1) (-1)) F' B' NT ni nf nd (Lv + 1) Md ct dp pt sz al dr hm ar rs (va_up ru Lv i) (va_up cf Lv 0) hp := by
  obtain ⟨a1, a2, a3, a4, ⟨a5, a6⟩, a7, a8, a9, a10⟩ := h
  have kk := kpK.rf K am N
  have hn6 := a4.1.2.2
  exact ⟨a1.tr (fun j _ _ _ _ h11 _ _ => hs_pu_g (by omega) (by omega)) (fun j _ => hs_pu_g (by omega) (by omega)), a2.tr kk (hs_pu_g (by omega) (by omega)) (fun k j _ _ _ => hs_pu_g (by omega) (by omega)) (fun k _ _ _ => ⟨hs_pu_a (by omega) (by omega) (by omega), rfl⟩) (fun _ _ => rfl) (fun f _ _ => hB f (by omega) (by omega) (by omega) (by omega)) (hF 1 (by omega)), a3.tr a2.1 kk (hs_pu_g (by omega) (by omega)) rfl (hB 11 (by omega) (by omega) (by omega) (by omega)) (hF 10 (by omega)), a4.push hi (hB 13 (by omega) (by omega) (by omega) (by omega)) (hB 14 (by omega) (by omega) (by omega) (by omega)) e15 (hF 12 (by omega)), ⟨a5.tr (fun i hi => (a4.2.1 i hi).1) kk (fun _ _ _ _ _ => hs_pu_g (by omega) (by omega)) (fun f _ _ => hB f (by omega) (by omega) (by omega) (by omega)), a6.push (fun f _ _ => hB f (by omega) (by omega) (by omega) (by omega)) (hB 24 (by omega) (by omega) (by omega) (by omega))⟩, a7.tr (hs_pu_g (by omega) (by omega)) ⟨hs_pu_a (by omega) (by omega) (by omega), hs_pu_a (by omega) (by omega) (by omega)⟩ (hB 23 (by omega) (by omega) (by omega) (by omega)) (hB 24 (by omega) (by omega) (by omega) (by omega)) (hF 22 (by omega)), a8.tr a2.1 kk (hs_pu_g (by omega) (by omega)) (fun f j _ => hs_pu_g (by omega) (by omega)) (fun _ _ => rfl) (hB 2 (by omega) (by omega) (by omega) (by omega)) (fun f _ _ => hB f (by omega) (by omega) (by omega) (by omega)) (hF 25 (by omega)), a9.push hi (by omega) (by omega) (by rw [h15]; decide) (fun z => by omega) e30 e31 e32 e15 h29, a10.tr (hs_pu_g (by omega) (by omega)) (hs_pu_g (by omega) (by omega)) (hs_pu_g (by omega) (by omega)) ⟨hF 33 (by omega), hF 34 (by omega), hF 35 (by omega)⟩⟩
/-! the top goes -/
theorem hs_po_g {i k j : Nat} (h1 : ¬ (k = 0 ∧ j = 11)) (h2 : ¬ (k = 200 + 20 * i ∧ (j = 2 ∨ j = 3))) : (hs_po S Lv i).1 k j = S.1 k j := by
  rw [hs_po, gsG_nj (by omega), gsG_nj (by omega), gsG_nj (by omega)]
theorem rS.pop (h : rS S F B ni nf Lv ru cf) (hL : 1 ≤ Lv) (h11 : S'.1 0 11 = .int (nI (Lv - 1))) (h29 : F' 29 = nI (Lv - 1)) (h5 : S'.2.1 5 = S.2.1 5) (h6 : S'.2.1 6 = S.2.1 6) (h7 : ∀ k, k < Lv - 1 → S'.2.1 7 k = B' 32 k) (e15 : B' 15 = upd (B 15) (ru (Lv - 1)) 0) (e30 : B' 30 = B 30) (e31 : B' 31 = B 31) : rS S' F' B' ni nf (Lv - 1) ru cf := by
  obtain ⟨⟨a1, a2, a3⟩, a4, a5, a6, a7, a8⟩ := h
  refine ⟨⟨h11, h29, by omega⟩, fun k hk => ?_, fun k k1 hk => ?_, fun k k' h1 h2 => a6 k k' h1 (by omega), fun j hj h15 => ?_, by rw [e30]; exact a8⟩
  · obtain ⟨b1, b2, b3, b4, -⟩ := a4 k (by omega)
    rw [h5, e30, e15, upd_ne (a6 k (Lv - 1) (by omega) (by omega))]
    exact ⟨b1, b2, b3, b4, h7 k hk⟩
  · rw [h6, e31]; exact a5 k k1 (by omega)
  · rw [e15] at h15
    by_cases e : j = ru (Lv - 1)
    · rw [e, upd_eq] at h15; exact absurd h15 (by decide)
    · rw [upd_ne e] at h15
      obtain ⟨k, k1, k2⟩ := a7 j hj h15
      refine ⟨k, ?_, k2⟩
      by_cases ek : k = Lv - 1
      · subst ek; exact absurd k2.symm e
      · omega
theorem rI.pop {i : Nat} (h : rI K am N S F B ni hp) (hi : i < ni) (h5 : S'.1 0 5 = S.1 0 5) (h2 : S'.1 (200 + 20 * i) 2 = .int 128) (h3 : S'.1 (200 + 20 * i) 3 = .int 0) (hG : ∀ a j, a < ni → j < 4 → ¬ (a = i ∧ 2 ≤ j) → S'.1 (200 + 20 * a) j = S.1 (200 + 20 * a) j) (hA : ∀ a, a < ni → S'.2.1 (201 + 20 * a) = S.2.1 (201 + 20 * a)) (hQ : S'.2.2 = S.2.2) (e13 : B' 13 = B 13) (e14 : B' 14 = upd (B 14) i 128) (e15 : B' 15 = upd (B 15) i 0) (hF : F' 12 = F 12) : rI K am N S' F' B' ni (va_up hp i 128) := by
  obtain ⟨⟨a1, a2, a3⟩, a4, a5, a6, a7, a8⟩ := h
  refine ⟨⟨h5.trans a1, hF.trans a2, a3⟩, fun j hj => ?_, fun j hj => ?_, by unfold mo_b8; rw [e13]; exact a6, by rw [e13]; exact a7, fun j => ⟨fun hj => ?_, by rw [e15]; exact st4_up (a8 j).2 (Or.inl rfl)⟩⟩
  · obtain ⟨b1, b2, b3, b4, b5⟩ := a4 j hj
    refine ⟨b1.of (fun j' h' => hG j j' hj (by omega) (by omega)) (by rw [hQ]), by rw [hQ]; exact b2, ?_, ?_, fun a ha => ?_⟩
    · rw [e14]
      by_cases e : j = i
      · subst e; rw [upd_eq]; exact h2
      · rw [upd_ne e, hG j 2 hj (by omega) (by omega)]; exact b3
    · rw [e15]
      by_cases e : j = i
      · subst e; rw [upd_eq]; exact h3
      · rw [upd_ne e, hG j 3 hj (by omega) (by omega)]; exact b4
    · rw [hA j hj, e13]; exact b5 a ha
  · rw [e14]
    by_cases e : j = i
    · subst e; rw [upd_eq, va_up_self]; exact ⟨rfl, by decide⟩
    · rw [upd_ne e, va_up_ne _ _ e]; exact a5 j hj
  · rw [e15, upd_ne (by omega)]; exact (a8 j).1 hj
theorem rM.pop (h : rM B ni Md Lv ru) (hl : ∀ x h, ¬ B 16 x = 0 → B 18 x = 0 → h < 16 → ¬ x = 17 * ru (Lv - 1) + h + 1) (hB : ∀ f, 16 ≤ f → f ≤ 19 → B' f = B f) (h24 : B' 24 = B 24) : rM B' ni Md (Lv - 1) ru := by
  have e16 := hB 16 (by omega) (by omega)
  have e18 := hB 18 (by omega) (by omega)
  obtain ⟨a1, a2, a3, a4, a5, a6⟩ := h.tr hB h24
  refine ⟨a1, a2, a3, a4, a5, fun x hx hx2 => ?_⟩
  obtain ⟨k, h, h', k1, k2, h1, ex, h2, e19, hu⟩ := a6 x hx hx2
  rw [e16] at hx
  rw [e18] at hx2
  have : k ≠ Lv - 1 := fun z => hl x h hx hx2 h1 (by rw [← z]; exact ex)
  exact ⟨k, h, h', k1, by omega, h1, ex, h2, e19, hu⟩
theorem RR.leave (h : RR hd K am N S F B NT ni nf nd Lv Md ct dp pt sz al dr hm ar rs ru cf hp) (hL : Lv = 1) (hB : ∀ f, f ≠ 14 → f ≠ 15 → B' f = B f) (e14 : B' 14 = upd (B 14) (ru (Lv - 1)) 128) (e15 : B' 15 = upd (B 15) (ru (Lv - 1)) 0) (h29 : F' 29 = nI (Lv - 1)) (hF : ∀ f, f = 1 ∨ f = 10 ∨ f = 12 ∨ f = 22 ∨ f = 25 ∨ f = 33 ∨ f = 34 ∨ f = 35 → F' f = F f) : RR hd K am N (hs_po S Lv (ru (Lv - 1))) F' B' NT ni nf nd (Lv - 1) Md ct dp pt sz al dr hm ar rs ru cf (va_up hp (ru (Lv - 1)) 128) := by
  obtain ⟨a1, a2, a3, a4, ⟨a5, a6⟩, a7, a8, a9, a10⟩ := h
  have kk := kpK.rf K am N
  have hi := (a9.2.1 (Lv - 1) (by omega)).2.2.1
  have hn6 := a4.1.2.2
  exact ⟨a1.tr (fun j _ _ _ _ h11 _ _ => hs_po_g (by omega) (by omega)) (fun j _ => hs_po_g (by omega) (by omega)), a2.tr kk (hs_po_g (by omega) (by omega)) (fun k j _ _ _ => hs_po_g (by omega) (by omega)) (fun k _ _ _ => ⟨rfl, rfl⟩) (fun _ _ => rfl) (fun f _ _ => hB f (by omega) (by omega)) (hF 1 (by omega)), a3.tr a2.1 kk (hs_po_g (by omega) (by omega)) rfl (hB 11 (by omega) (by omega)) (hF 10 (by omega)), a4.pop hi (hs_po_g (by omega) (by omega)) ((gsG_nj (Or.inl (by omega))).trans (gsG_eq _ _ _ _)) ((gsG_nj (Or.inl (by omega))).trans ((gsG_nj (Or.inr (by decide))).trans (gsG_eq _ _ _ _))) (fun a j _ _ hn => hs_po_g (by omega) (by omega)) (fun _ _ => rfl) rfl (hB 13 (by omega) (by omega)) e14 e15 (hF 12 (by omega)), ⟨a5.tr (fun i hi => (a4.2.1 i hi).1) kk (fun _ _ _ _ _ => hs_po_g (by omega) (by omega)) (fun f _ _ => hB f (by omega) (by omega)), a6.pop (fun x h hx hx2 _ _ => by obtain ⟨k, _, _, k1, k2, -⟩ := a6.2.2.2.2.2 x hx hx2; omega) (fun f _ _ => hB f (by omega) (by omega)) (hB 24 (by omega) (by omega))⟩, a7.tr (hs_po_g (by omega) (by omega)) ⟨rfl, rfl⟩ (hB 23 (by omega) (by omega)) (hB 24 (by omega) (by omega)) (hF 22 (by omega)), a8.tr a2.1 kk (hs_po_g (by omega) (by omega)) (fun f j _ => hs_po_g (by omega) (by omega)) (fun _ _ => rfl) (hB 2 (by omega) (by omega)) (fun f _ _ => hB f (by omega) (by omega)) (hF 25 (by omega)), a9.pop (by omega) (gsG_eq _ _ _ _) h29 rfl rfl (fun k hk => by omega) e15 (hB 30 (by omega) (by omega)) (hB 31 (by omega) (by omega)), a10.tr (hs_po_g (by omega) (by omega)) (hs_po_g (by omega) (by omega)) (hs_po_g (by omega) (by omega)) ⟨hF 33 (by omega), hF 34 (by omega), hF 35 (by omega)⟩⟩
end RRp
