/-! calls keep the relation -/
theorem and255 (x : Int32) : ∃ b, b < 256 ∧ x &&& 255 = nI b := by
  refine ⟨(x.toBitVec &&& 255#32).toNat, ?_, ?_⟩
  · rw [BitVec.toNat_and]; exact Nat.lt_of_le_of_lt Nat.and_le_right (by decide)
  · apply Int32.toBitVec_inj.mp
    rw [Int32.toBitVec_and]
    show _ = (Int32.ofNat _).toBitVec
    rw [Int32.toBitVec_ofNat', BitVec.ofNat_toNat, BitVec.setWidth_eq]
    rfl
theorem by_eq (w : Int64) (j : Nat) : mo_by w j = hb_by w j := by
  unfold mo_by hb_by
  rw [Int64.toInt32_and]
  rfl
theorem wb_at (f : Nat → Int32) (b x : Nat) (w : Int64) : ∀ k, mo_wb f b w k x = if b ≤ x ∧ x < b + k then hb_by w (x - b) else f x := by
  intro k
  induction k with
  | zero => rw [if_neg (by omega)]; rfl
  | succ k ih =>
    rw [mo_wb]
    by_cases e : x = b + k
    · subst e; rw [upd_eq, if_pos (by omega), show b + k - b = k by omega, by_eq]
    · rw [upd_ne e, ih]
      by_cases c : b ≤ x ∧ x < b + k
      · rw [if_pos c, if_pos (by omega)]
      · rw [if_neg c, if_neg (by omega)]
section RRk
variable {K : List Nat} {am N hd : Nat → Nat} {S : gS} {F F' : Nat → Int32} {B B' : Nat → Nat → Int32} {NT ni nf nd Lv Md : Nat} {ct dp sz al dr hm ar rs ru cf hp : Nat → Nat} {pt : Nat → Nat → Nat}
theorem RR.part {j : Nat} (h : RR hd K am N S F B NT ni nf nd Lv Md ct dp pt sz al dr hm ar rs ru cf hp) (hj : j < NT) (hn : nd < 6) (h10 : F' 10 = nI (nd + 1)) (hF : ∀ f, f = 1 ∨ f = 12 ∨ f = 22 ∨ f = 25 ∨ f = 29 ∨ f = 33 ∨ f = 34 ∨ f = 35 → F' f = F f) : RR hd K am N (gsG (gsQ S 2 nd (some (am (100 + 3 * j)))) 0 3 (.int (nI (nd + 1)))) F' (va_up B 11 (upd (B 11) nd (nI j))) NT ni nf (nd + 1) Lv Md ct dp pt sz al (va_up dr nd j) hm ar rs ru cf hp := by
  obtain ⟨a1, a2, a3, a4, ⟨a5, a6⟩, a7, a8, a9, a10⟩ := h
  have kk := kpK.rf K am N
  have g : ∀ k j', (k ≠ 0 ∨ j' ≠ 3) → (gsG (gsQ S 2 nd (some (am (100 + 3 * j)))) 0 3 (.int (nI (nd + 1)))).1 k j' = S.1 k j' := fun k j' hk => gsG_nj (S := gsQ S 2 nd (some (am (100 + 3 * j)))) hk
  have q : ∀ k, k ≠ 2 → (gsG (gsQ S 2 nd (some (am (100 + 3 * j)))) 0 3 (.int (nI (nd + 1)))).2.2.1 k = S.2.2.1 k := fun k hk => up2_ne _ _ hk
  have b : ∀ f, f ≠ 11 → va_up B 11 (upd (B 11) nd (nI j)) f = B f := fun f hf => va_up_ne _ _ hf
  refine ⟨a1.tr (fun j' _ h3 _ _ _ _ _ => g 0 j' (Or.inr h3)) (fun j' _ => g 10 j' (Or.inl (by decide))), a2.tr kk (g 0 1 (by omega)) (fun k j' _ _ _ => g k j' (by omega)) (fun k _ _ _ => ⟨rfl, q k (by omega)⟩) (fun t _ => by rw [q 1 (by omega)]) (fun f _ _ => b f (by omega)) (hF 1 (by omega)), ?_, a4.tr kk (g 0 5 (by omega)) (fun i j' _ _ => g _ j' (by omega)) (fun _ _ => rfl) (fun i _ => ⟨q _ (by omega), by rw [q 3 (by omega)]⟩) (fun f _ _ => b f (by omega)) (hF 12 (by omega)), ⟨a5.tr (fun i hi => (a4.2.1 i hi).1) kk (fun i h j' _ _ => g _ j' (by omega)) (fun f _ _ => b f (by omega)), a6.tr (fun f _ _ => b f (by omega)) (b 24 (by omega))⟩, a7.tr (g 0 12 (by omega)) ⟨rfl, rfl⟩ (b 23 (by omega)) (b 24 (by omega)) (hF 22 (by omega)), a8.tr a2.1 kk (g 0 7 (by omega)) (fun f j' _ => g _ j' (by omega)) (fun f _ => by rw [q 4 (by omega)]) (b 2 (by omega)) (fun f _ _ => b f (by omega)) (hF 25 (by omega)), a9.tr (g 0 11 (by omega)) (fun _ _ _ => rfl) (b 15 (by omega)) (fun f _ _ => b f (by omega)) (hF 29 (by omega)), a10.tr (g 14 0 (by omega)) (g 14 1 (by omega)) (g 0 17 (by omega)) ⟨hF 33 (by omega), hF 34 (by omega), hF 35 (by omega)⟩⟩
  obtain ⟨-, b4⟩ := a3
  refine ⟨⟨gsG_eq _ _ _ _, h10, by omega⟩, fun h hh => ?_⟩
  rw [va_up_self]
  by_cases e : h = nd
  · subst e
    rw [va_up_self, upd_eq]
    exact ⟨up2_eq S.2.2.1 2 h (some (am (100 + 3 * j))), hj, rfl⟩
  · rw [va_up_ne _ _ e, upd_ne e]
    obtain ⟨c1, c2, c3⟩ := b4 h (by omega)
    exact ⟨(up2_nj S.2.2.1 (k := 2) (j := nd) (some (am (100 + 3 * j))) (Or.inr e)).trans c1, c2, c3⟩
theorem RR.write {ii a n : Nat} {w : Int64} (h : RR hd K am N S F B NT ni nf nd Lv Md ct dp pt sz al dr hm ar rs ru cf hp) (hi : ii < ni) (ha : a + n ≤ 256) (hF : ∀ f, f = 1 ∨ f = 10 ∨ f = 12 ∨ f = 22 ∨ f = 25 ∨ f = 29 ∨ f = 33 ∨ f = 34 ∨ f = 35 → F' f = F f) : RR hd K am N (hb_sb S (201 + 20 * ii) a w n) F' (va_up B 13 (mo_wb (B 13) (256 * ii + a) w n)) NT ni nf nd Lv Md ct dp pt sz al dr hm ar rs ru cf hp := by
  obtain ⟨a1, a2, a3, a4, ⟨a5, a6⟩, a7, a8, a9, a10⟩ := h
  have kk := kpK.rf K am N
  obtain ⟨s1, s2⟩ := hsb_1 S (201 + 20 * ii) a w n
  have g : ∀ k j', (hb_sb S (201 + 20 * ii) a w n).1 k j' = S.1 k j' := fun k j' => by rw [s1]
  have q : ∀ k, (hb_sb S (201 + 20 * ii) a w n).2.2.1 k = S.2.2.1 k := fun k => by rw [s2]
  have m : ∀ k, k ≠ 201 + 20 * ii → (hb_sb S (201 + 20 * ii) a w n).2.1 k = S.2.1 k := fun k hk => hsb_ne S _ a w hk n
  have b : ∀ f, f ≠ 13 → va_up B 13 (mo_wb (B 13) (256 * ii + a) w n) f = B f := fun f hf => va_up_ne _ _ hf
  refine ⟨a1.tr (fun j' _ _ _ _ _ _ _ => g 0 j') (fun j' _ => g 10 j'), a2.tr kk (g 0 1) (fun k j' _ _ _ => g k j') (fun k _ _ _ => ⟨m k (by omega), q k⟩) (fun t _ => by rw [q 1]) (fun f _ _ => b f (by omega)) (hF 1 (by omega)), a3.tr a2.1 kk (g 0 3) (q 2) (b 11 (by omega)) (hF 10 (by omega)), ?_, ⟨a5.tr (fun i hi => (a4.2.1 i hi).1) kk (fun i h j' _ _ => g _ j') (fun f _ _ => b f (by omega)), a6.tr (fun f _ _ => b f (by omega)) (b 24 (by omega))⟩, a7.tr (g 0 12) ⟨m 8 (by omega), m 9 (by omega)⟩ (b 23 (by omega)) (b 24 (by omega)) (hF 22 (by omega)), a8.tr a2.1 kk (g 0 7) (fun f j' _ => g _ j') (fun f _ => by rw [q 4]) (b 2 (by omega)) (fun f _ _ => b f (by omega)) (hF 25 (by omega)), a9.tr (g 0 11) (fun k _ _ => m k (by omega)) (b 15 (by omega)) (fun f _ _ => b f (by omega)) (hF 29 (by omega)), a10.tr (g 14 0) (g 14 1) (g 0 17) ⟨hF 33 (by omega), hF 34 (by omega), hF 35 (by omega)⟩⟩
  obtain ⟨⟨c1, c2, c3⟩, c4, c5, c6, c7, c8⟩ := a4
  refine ⟨⟨(g 0 5).trans c1, (hF 12 (by omega)).trans c2, c3⟩, fun i h9 => ?_, by rw [b 14 (by omega)]; exact c5, fun y hy => ?_, fun y hy => ?_, by rw [b 15 (by omega)]; exact c8⟩
  · obtain ⟨d1, d2, d3, d4, d5⟩ := c4 i h9
    refine ⟨d1.of (fun j' _ => g _ j') (q _), by rw [q 3]; exact d2, by rw [g, b 14 (by omega)]; exact d3, by rw [g, b 15 (by omega)]; exact d4, fun x hx => ?_⟩
    rw [va_up_self, wb_at]
    by_cases e : i = ii
    · subst e
      rw [hsb_at]
      by_cases c : a ≤ x ∧ x < a + n
      · rw [if_pos c, if_pos (by omega), show 256 * i + x - (256 * i + a) = x - a by omega]
      · rw [if_neg c, if_neg (by omega)]; exact d5 x hx
    · rw [m _ (by omega), if_neg (by omega)]; exact d5 x hx
  · rw [va_up_self, wb_at]
    split
    · exact and255 _
    · exact c6 y hy
  · rw [va_up_self, wb_at, if_neg (by omega)]; exact c7 y hy
/-- no loans of a handle that is free -/
theorem rM.ln0 (h : rM B ni Md Lv ru) (hni : ni ≤ 6) (h21 : ∀ x, x < 102 → B 20 x = 0 ∧ B 21 x = 0) {x : Nat} (hx : x < 102) (h0 : B 16 x = 0) : lnB B x = 0 := by
  have e : ∀ n, n ≤ 102 → mo_ln B (nI x) 0 n = 0 := by
    intro n
    induction n with
    | zero => intro _; rfl
    | succ n ih =>
      intro hn
      rw [mo_ln, if_neg (fun z => ?_)]
      · exact ih (by omega)
      · obtain ⟨k, h9, h', k1, k2, h1, ex, h2, e19, hu⟩ := h.2.2.2.2.2 n z.1 z.2.1
        obtain ⟨a, g, a1, g1, ea⟩ := h.1 _ hu
        have : 17 * ru (k - 1) + h' + 1 = x := n_eq _ _ (e19.symm.trans z.2.2)
        exact hu (by rw [this]; exact h0)
  rw [lnB, (h21 x hx).2]
  exact e 102 (Nat.le_refl _)
theorem rM.nl (h : rM B ni Md Lv ru) (hni : ni ≤ 6) (h21 : ∀ x, x < 102 → B 20 x = 0 ∧ B 21 x = 0) {x : Nat} (hx : x < 102) (h0 : lnB B x ≤ 0) : ∀ y, ¬ B 16 y = 0 → B 18 y = 0 → ¬ B 19 y = nI x := by
  have e : ∀ n, n ≤ 102 → ∃ c, c ≤ n ∧ mo_ln B (nI x) 0 n = nI c ∧ (c = 0 → ∀ y, y < n → ¬ (¬ B 16 y = 0 ∧ B 18 y = 0 ∧ B 19 y = nI x)) := by
    intro n
    induction n with
    | zero => intro _; exact ⟨0, Nat.le_refl _, rfl, fun _ y hy => absurd hy (Nat.not_lt_zero y)⟩
    | succ n ih =>
      intro hn
      obtain ⟨c, c1, c2, c3⟩ := ih (by omega)
      rw [mo_ln]
      by_cases d : ¬ B 16 n = 0 ∧ B 18 n = 0 ∧ B 19 n = nI x
      · rw [if_pos d, c2, nI_1]
        exact ⟨c + 1, by omega, rfl, fun z => by omega⟩
      · rw [if_neg d]
        refine ⟨c, by omega, c2, fun z y hy => ?_⟩
        by_cases ey : y = n
        · subst ey; exact d
        · exact c3 z y (by omega)
  obtain ⟨c, c1, c2, c3⟩ := e 102 (Nat.le_refl _)
  rw [lnB, (h21 x hx).2, c2] at h0
  have hc : c = 0 := by have := n_le c 0 h0; omega
  intro y hy1 hy2 hy3
  obtain ⟨a, g, a1, g1, ea⟩ := h.1 y hy1
  exact c3 hc y (by omega) ⟨hy1, hy2, hy3⟩
end RRk
