/-! new instances and functions keep the relation -/
theorem nd_apl : ∀ (L K : List Nat), va_nd K = true → (∀ k, k ∈ L → k ∉ K) → L.Nodup → va_nd (K ++ L) = true := by
  intro L
  induction L with
  | nil => intro K h _ _; rw [List.append_nil]; exact h
  | cons a L ih =>
    intro K h h2 h3
    rw [show K ++ a :: L = (K ++ [a]) ++ L by rw [List.append_assoc]; rfl]
    refine ih _ (nd_app h (h2 a (List.mem_cons_self ..))) (fun k hk hm => ?_) (List.nodup_cons.mp h3).2
    rcases List.mem_append.mp hm with hm | hm
    · exact h2 k (List.mem_cons_of_mem _ hk) hm
    · rw [List.mem_singleton] at hm
      subst hm
      exact (List.nodup_cons.mp h3).1 hk
theorem inK_nd : ∀ i, i < 6 → (inK i 16).Nodup := by decide +kernel
section RRn
variable {K K' : List Nat} {am N am' N' hd : Nat → Nat} {S S' : gS} {F F' : Nat → Int32} {B B' : Nat → Nat → Int32} {NT ni nf nd Lv Md : Nat} {ct dp sz al dr hm ar rs ru cf hp : Nat → Nat} {pt : Nat → Nat → Nat}
theorem hc_w0.kk (h : hc_w0 K am N S) (kk : kpK K am N K' am' N') (hnd : va_nd K' = true) (h1 : ∀ j, j ≠ 1 → j ≠ 3 → j ≠ 5 → j ≠ 7 → j ≠ 11 → j ≠ 12 → j ≠ 17 → S'.1 0 j = S.1 0 j) (h2 : ∀ j, j ≠ 3 → S'.1 10 j = S.1 10 j) : hc_w0 K' am' N' S' := by
  obtain ⟨⟨b1, b2⟩, b3, b4⟩ := h.of h1 h2
  have m : ∀ k, k < 15 → am' k = am k ∧ N' k = N k := fun k hk => (kk k (b2 k hk)).2
  refine ⟨⟨hnd, fun k hk => (kk k (b2 k hk)).1⟩, ?_, ?_⟩
  · rw [(m 1 (by decide)).2, (m 2 (by decide)).2, (m 3 (by decide)).2, (m 4 (by decide)).2, (m 5 (by decide)).2, (m 6 (by decide)).2, (m 7 (by decide)).2, (m 8 (by decide)).2, (m 9 (by decide)).2, (m 11 (by decide)).2, (m 12 (by decide)).2, (m 13 (by decide)).2]
    exact b3
  · rw [(m 1 (by decide)).1, (m 2 (by decide)).1, (m 3 (by decide)).1, (m 4 (by decide)).1, (m 5 (by decide)).1, (m 6 (by decide)).1, (m 7 (by decide)).1, (m 8 (by decide)).1, (m 9 (by decide)).1, (m 10 (by decide)).1, (m 14 (by decide)).1, (m 11 (by decide)).1, (m 12 (by decide)).1, (m 13 (by decide)).1]
    exact b4
/-- what is wanted of a function -/
theorem rF.of (h : rF K am S F B NT ni nf ct pt hm ar rs) (hT : TyR K am N S B NT ct pt) (kk : kpK K am N K' am' N') (hG : ∀ f j, f < nf → S'.1 (400 + f) j = S.1 (400 + f) j) (hQ : ∀ f, f < nf → S'.2.2.1 4 f = S.2.2.1 4 f) {f : Nat} (hf : f < nf) : (400 + f ∈ K' ∧ S'.2.2.1 4 f = some (am' (400 + f)) ∧ S'.1 (400 + f) 0 = .int (nI (hm f)) ∧ S'.1 (400 + f) 1 = .ref (am' (100 + 3 * ar f)) ∧ S'.1 (400 + f) 2 = .ref (am' (100 + 3 * rs f)) ∧ hm f < ni ∧ ar f < NT ∧ rs f < NT) := by
  obtain ⟨⟨b1, b2, b3, b4, b5, b6, b7, b8⟩, -⟩ := h.2 f hf
  refine ⟨(kk _ b1).1, ?_, ?_, ?_, ?_, b6, b7, b8⟩
  · rw [hQ f hf, (kk _ b1).2.1]; exact b2
  · rw [hG f 0 hf]; exact b3
  · rw [hG f 1 hf, (kk _ (hT.k0 b7)).2.1]; exact b4
  · rw [hG f 2 hf, (kk _ (hT.k0 b8)).2.1]; exact b5
theorem rI.of (h : rI K am N S F B ni hp) (kk : kpK K am N K' am' N') (hG : ∀ i j, i < ni → j < 4 → S'.1 (200 + 20 * i) j = S.1 (200 + 20 * i) j) (hA : ∀ i, i < ni → S'.2.1 (201 + 20 * i) = S.2.1 (201 + 20 * i)) (hQ : ∀ i, i < ni → S'.2.2.1 (202 + 20 * i) = S.2.2.1 (202 + 20 * i) ∧ S'.2.2.1 3 i = S.2.2.1 3 i) {i : Nat} (hi : i < ni) : in_ok K' am' N' S' i ∧ S'.2.2.1 3 i = some (am' (200 + 20 * i)) ∧ S'.1 (200 + 20 * i) 2 = .int (B 14 i) ∧ S'.1 (200 + 20 * i) 3 = .int (B 15 i) ∧ me_R S' B i := by
  obtain ⟨⟨h1, h2, h3, h4, h5, h6, h7, h8⟩, b2, b3, b4, b5⟩ := h.2.1 i hi
  refine ⟨⟨(kk _ h1).1, (kk _ h2).1, (kk _ h3).1, ?_, ?_, by rw [(kk _ h2).2.2]; exact h6, by rw [(kk _ h3).2.2]; exact h7, fun h hh => ?_⟩, ?_, ?_, ?_, fun a ha => ?_⟩
  · rw [hG i 0 hi (by omega), (kk _ h2).2.1]; exact h4
  · rw [hG i 1 hi (by omega), (kk _ h3).2.1]; exact h5
  · obtain ⟨c1, c2⟩ := h8 h hh
    refine ⟨(kk _ c1).1, ?_⟩
    rw [(hQ i hi).1, (kk _ c1).2.1]; exact c2
  · rw [(hQ i hi).2, (kk _ h1).2.1]; exact b2
  · rw [hG i 2 hi (by omega)]; exact b3
  · rw [hG i 3 hi (by omega)]; exact b4
  · rw [hA i hi]; exact b5 a ha
theorem fn_S_g {j a b q k i : Nat} (h1 : k ≠ 400 + nf) (h2 : ¬ (k = 0 ∧ i = 7)) : (fn_S S am nf j a b q).1 k i = S.1 k i := by
  rw [fn_S, gsG_nj (by omega)]
  show (gsG (gsG (gsG (gsO S (400 + nf) (fun j => defaultValue (t_fu j))) (400 + nf) 0 (.int (nI j))) (400 + nf) 1 (.ref (am (100 + 3 * a)))) (400 + nf) 2 (.ref (am (100 + 3 * b)))).1 k i = _
  rw [gsG_nj (Or.inl h1), gsG_nj (Or.inl h1), gsG_nj (Or.inl h1)]
  show va_up S.1 (400 + nf) (fun j => defaultValue (t_fu j)) k i = _
  rw [va_up_ne _ _ h1]
theorem fn_S_f {j a b q : Nat} : (fn_S S am nf j a b q).1 (400 + nf) 0 = .int (nI j) ∧ (fn_S S am nf j a b q).1 (400 + nf) 1 = .ref (am (100 + 3 * a)) ∧ (fn_S S am nf j a b q).1 (400 + nf) 2 = .ref (am (100 + 3 * b)) := by
  have e : ∀ i, (fn_S S am nf j a b q).1 (400 + nf) i = (gsG (gsG (gsG (gsO S (400 + nf) (fun j => defaultValue (t_fu j))) (400 + nf) 0 (.int (nI j))) (400 + nf) 1 (.ref (am (100 + 3 * a)))) (400 + nf) 2 (.ref (am (100 + 3 * b)))).1 (400 + nf) i := fun i => by
    rw [fn_S, gsG_nj (by omega)]
    rfl
  rw [e, e, e]
  refine ⟨?_, ?_, gsG_eq _ _ _ _⟩
  · rw [gsG_nj (Or.inr (by decide)), gsG_nj (Or.inr (by decide))]; exact gsG_eq _ _ _ _
  · rw [gsG_nj (Or.inr (by decide))]; exact gsG_eq _ _ _ _
theorem fn_S_q {j a b q k : Nat} : (fn_S S am nf j a b q).2.2.1 k = if k = 4 then va_up (S.2.2.1 4) nf (some q) else S.2.2.1 k := by
  show up2 S.2.2.1 4 nf (some q) k = _
  by_cases e : k = 4
  · subst e; rw [if_pos rfl, up2_self]
  · rw [if_neg e, up2_ne _ _ e]
theorem RR.function {j a b q : Nat} (H : RR hd K am N S F B NT ni nf nd Lv Md ct dp pt sz al dr hm ar rs ru cf hp) (hj : j < ni) (ha : a < NT) (hb : b < NT) (hf : nf < 12) (hlb : lb_r B ct pt 5 b = false) (e26 : B' 26 = upd (B 26) nf (nI j)) (e27 : B' 27 = upd (B 27) nf (nI a)) (e28 : B' 28 = upd (B 28) nf (nI b)) (hB : ∀ f, f < 37 → f ≠ 26 → f ≠ 27 → f ≠ 28 → B' f = B f) (h25 : F' 25 = nI (nf + 1)) (hF : ∀ f, f = 1 ∨ f = 10 ∨ f = 12 ∨ f = 22 ∨ f = 29 ∨ f = 33 ∨ f = 34 ∨ f = 35 → F' f = F f) :
    RR hd (K ++ [400 + nf]) (va_up am (400 + nf) q) N (fn_S S am nf j a b q) F' B' NT ni (nf + 1) nd Lv Md ct dp pt sz al dr (va_up hm nf j) (va_up ar nf a) (va_up rs nf b) ru cf hp := by
  obtain ⟨a1, a2, a3, a4, ⟨a5, a6⟩, a7, a8, a9, a10⟩ := H
  have hn6 := a4.1.2.2
  have h32 := a2.1.1
  have hk : 400 + nf ∉ K := fun z => by have := a1.2 _ z; omega
  have kk : kpK K am N (K ++ [400 + nf]) (va_up am (400 + nf) q) N := fun k hk9 => ⟨List.mem_append_left _ hk9, va_up_ne _ _ (fun z => hk (z ▸ hk9)), rfl⟩
  have g : ∀ k i, k ≠ 400 + nf → ¬ (k = 0 ∧ i = 7) → (fn_S S am nf j a b q).1 k i = S.1 k i := fun k i => fn_S_g
  have gq : ∀ k, k ≠ 4 → (fn_S S am nf j a b q).2.2.1 k = S.2.2.1 k := fun k hk => by rw [fn_S_q, if_neg hk]
  refine ⟨⟨a1.1.kk kk (nd_app a1.1.1.1 hk) (fun j _ _ _ _ _ _ _ => g 0 j (by omega) (by omega)) (fun j _ => g 10 j (by omega) (by omega)), fun k hk9 => ?_⟩, a2.tr kk (g 0 1 (by omega) (by omega)) (fun k j _ _ _ => g k j (by omega) (by omega)) (fun k _ _ _ => ⟨rfl, gq k (by omega)⟩) (fun _ _ => by rw [gq 1 (by decide)]) (fun f _ _ => hB f (by omega) (by omega) (by omega) (by omega)) (hF 1 (by omega)), a3.tr a2.1 kk (g 0 3 (by omega) (by omega)) (gq 2 (by decide)) (hB 11 (by omega) (by omega) (by omega) (by omega)) (hF 10 (by omega)), a4.tr kk (g 0 5 (by omega) (by omega)) (fun a j _ _ => g _ j (by omega) (by omega)) (fun a _ => rfl) (fun i _ => ⟨gq _ (by omega), by rw [gq 3 (by decide)]⟩) (fun f _ _ => hB f (by omega) (by omega) (by omega) (by omega)) (hF 12 (by omega)), ⟨a5.tr (fun i hi => (a4.2.1 i hi).1) kk (fun i h j _ _ => g _ j (by omega) (by omega)) (fun f _ _ => hB f (by omega) (by omega) (by omega) (by omega)), a6.tr (fun f _ _ => hB f (by omega) (by omega) (by omega) (by omega)) (hB 24 (by omega) (by omega) (by omega) (by omega))⟩, a7.tr (g 0 12 (by omega) (by omega)) ⟨rfl, rfl⟩ (hB 23 (by omega) (by omega) (by omega) (by omega)) (hB 24 (by omega) (by omega) (by omega) (by omega)) (hF 22 (by omega)), ⟨⟨gsG_eq _ _ _ _, h25, by omega⟩, fun f hf9 => ?_⟩, ⟨⟨(g 0 11 (by omega) (by omega)).trans a9.1.1, (hF 29 (by omega)).trans a9.1.2.1, a9.1.2.2⟩, fun k hk => ?_, fun k hk hk2 => ?_, a9.2.2.2.1, fun j hj => ?_, fun k hk => ?_⟩, a10.tr (g 14 0 (by omega) (by omega)) (g 14 1 (by omega) (by omega)) (g 0 17 (by omega) (by omega)) ⟨hF 33 (by omega), hF 34 (by omega), hF 35 (by omega)⟩⟩
  · rcases List.mem_append.mp hk9 with h | h
    · have := a1.2 k h; omega
    · rw [List.mem_singleton] at h; omega
  · rw [rT.lb (hB 2 (by omega) (by omega) (by omega) (by omega)), e26, e27, e28]
    by_cases e : f = nf
    · subst e
      rw [upd_eq, upd_eq, upd_eq, va_up_self hm, va_up_self ar, va_up_self rs]
      have ea : ∀ t, t < NT → va_up am (400 + f) q (100 + 3 * t) = am (100 + 3 * t) := fun t ht => va_up_ne _ _ (by omega)
      rw [ea a ha, ea b hb, va_up_self am, fn_S_q, if_pos rfl, va_up_self]
      exact ⟨⟨List.mem_append_right _ (List.mem_singleton.mpr rfl), rfl, fn_S_f.1, fn_S_f.2.1, fn_S_f.2.2, hj, ha, hb⟩, rfl, rfl, rfl, hlb⟩
    · have hf8 : f < nf := by omega
      obtain ⟨-, c1, c2, c3, c4⟩ := a8.2 f hf8
      rw [upd_ne e, upd_ne e, upd_ne e, va_up_ne _ _ e, va_up_ne _ _ e, va_up_ne _ _ e]
      exact ⟨a8.of a2.1 kk (fun f j hf => g _ j (by omega) (by omega)) (fun f hf => by rw [fn_S_q, if_pos rfl, va_up_ne _ _ (by omega)]) hf8, c1, c2, c3, c4⟩
  · rw [hB 30 (by omega) (by omega) (by omega) (by omega), hB 15 (by omega) (by omega) (by omega) (by omega), hB 32 (by omega) (by omega) (by omega) (by omega)]
    exact a9.2.1 k hk
  · rw [hB 31 (by omega) (by omega) (by omega) (by omega)]
    obtain ⟨b1, b2, b3⟩ := a9.2.2.1 k hk hk2
    exact ⟨b1, b2, by omega⟩
  · rw [hB 15 (by omega) (by omega) (by omega) (by omega)]; exact a9.2.2.2.2.1 j hj
  · rw [hB 30 (by omega) (by omega) (by omega) (by omega)]; exact a9.2.2.2.2.2 k hk
theorem HR.up {fr : Nat → Bool} {ln : Nat → Int32} {m i h : Nat} (H : HR am hd S B fr ln ni i h) (hm : ni ≤ m) : HR am hd S B fr ln m i h := by
  obtain ⟨b1, b2, b3⟩ := H
  refine ⟨b1, b2, fun q => ?_⟩
  obtain ⟨c1, c2, c3⟩ := b3 q
  refine ⟨c1, c2, fun y => ?_⟩
  obtain ⟨i', h', d1, d2⟩ := c3 y
  exact ⟨i', h', by omega, d2⟩
theorem rM.up {m : Nat} (h : rM B ni Md Lv ru) (hm : ni ≤ m) : rM B m Md Lv ru := by
  obtain ⟨b1, b2⟩ := h
  refine ⟨fun x hx => ?_, b2⟩
  obtain ⟨a, g, c1, c2⟩ := b1 x hx
  exact ⟨a, g, by omega, c2⟩
theorem RR.newI {q : Nat} {am2 N2 : Nat → Nat} {S2 : gS} (H : RR hd K am N S F B NT ni nf nd Lv Md ct dp pt sz al dr hm ar rs ru cf hp) (hni : ni < 6) (hQ : inQ hd (va_up am (200 + 20 * ni) q) N (gsO S (200 + 20 * ni) (fun j => defaultValue (t_in j))) ni 16 am2 N2 S2) (e14 : B' 14 = upd (B 14) ni 128) (hB : ∀ f, f < 37 → f ≠ 14 → B' f = B f) (h12 : F' 12 = nI (ni + 1)) (hF : ∀ f, f = 1 ∨ f = 10 ∨ f = 22 ∨ f = 25 ∨ f = 29 ∨ f = 33 ∨ f = 34 ∨ f = 35 → F' f = F f) :
    RR hd (K ++ [200 + 20 * ni] ++ inK ni 16) am2 N2 (ni_S S2 ni (am2 (200 + 20 * ni))) F' B' NT (ni + 1) nf nd Lv Md ct dp pt sz al dr hm ar rs ru cf (va_up hp ni 128) := by
  obtain ⟨a1, a2, a3, a4, ⟨a5, a6⟩, a7, a8, a9, a10⟩ := H
  have h32 := a2.1.1
  obtain ⟨q1, q2, q3, q4, q5, q6, q7, q8, q9, q10, q11, q12⟩ := hQ
  have hK : ∀ k, k ∈ K → k < 200 + 20 * ni ∨ 219 + 20 * ni ≤ k := fun k hk => by have := a1.2 k hk; omega
  have kk : kpK K am N (K ++ [200 + 20 * ni] ++ inK ni 16) am2 N2 := fun k hk => by
    have := hK k hk
    refine ⟨List.mem_append_left _ (List.mem_append_left _ hk), ?_, ?_⟩
    · rw [q1 k (by omega), va_up_ne _ _ (by omega)]
    · rw [q2, va_up_ne _ _ (by omega), va_up_ne _ _ (by omega)]
  have g2 : ∀ k i, (k < 200 + 20 * ni ∨ 219 + 20 * ni ≤ k) → S2.1 k i = S.1 k i := fun k i h1 => by
    rw [q3 k i h1]
    show va_up S.1 (200 + 20 * ni) _ k i = _
    rw [va_up_ne _ _ (by omega)]
  have g : ∀ k i, (k < 200 + 20 * ni ∨ 219 + 20 * ni ≤ k) → ¬ (k = 0 ∧ i = 5) → (ni_S S2 ni (am2 (200 + 20 * ni))).1 k i = S.1 k i := fun k i h1 h2 => by
    rw [ni_S, gsG_nj (by omega)]
    exact g2 k i h1
  have gn : ∀ k i, k ≠ 0 → (ni_S S2 ni (am2 (200 + 20 * ni))).1 k i = S2.1 k i := fun k i h1 => by
    rw [ni_S, gsG_nj (Or.inl h1)]; rfl
  have gq : ∀ k, k ≠ 3 → k ≠ 202 + 20 * ni → (ni_S S2 ni (am2 (200 + 20 * ni))).2.2.1 k = S.2.2.1 k := fun k h1 h2 => by
    show up2 S2.2.2.1 3 ni _ k = _
    rw [up2_ne _ _ h1, q5 k h2]
    rfl
  have gq3 : ∀ i, (ni_S S2 ni (am2 (200 + 20 * ni))).2.2.1 3 i = if i = ni then some (am2 (200 + 20 * ni)) else S.2.2.1 3 i := fun i => by
    show up2 S2.2.2.1 3 ni _ 3 i = _
    rw [up2_self]
    by_cases e : i = ni
    · subst e; rw [if_pos rfl, va_up_self]
    · rw [if_neg e, va_up_ne _ _ e, q5 3 (by omega)]; rfl
  have gA : ∀ k, k ≠ 201 + 20 * ni → (ni_S S2 ni (am2 (200 + 20 * ni))).2.1 k = S.2.1 k := fun k h1 => q4 k h1
  have hB1 : ∀ f, f < 14 → B' f = B f := fun f hf => hB f (by omega) (by omega)
  have h16 : ∀ h, h < 16 → B 16 (17 * ni + h + 1) = 0 := fun h hh => Decidable.byContradiction fun z => by
    obtain ⟨a, g, c1, c2, c3⟩ := a6.1 _ z
    omega
  have nd2 : va_nd (K ++ [200 + 20 * ni] ++ inK ni 16) = true := by
    refine nd_apl _ _ (nd_app a1.1.1.1 (fun z => by have := hK _ z; omega)) (fun k hk hm => ?_) (inK_nd ni hni)
    rw [inK_m] at hk
    rcases List.mem_append.mp hm with hm | hm
    · have := hK _ hm; omega
    · rw [List.mem_singleton] at hm; omega
  refine ⟨⟨a1.1.kk kk nd2 (fun j _ _ _ _ _ _ _ => g 0 j (by omega) (by omega)) (fun j _ => g 10 j (by omega) (by omega)), fun k hk9 => ?_⟩, a2.tr kk (g 0 1 (by omega) (by omega)) (fun k j _ _ _ => g k j (by omega) (by omega)) (fun k _ _ _ => ⟨gA k (by omega), gq k (by omega) (by omega)⟩) (fun _ _ => by rw [gq 1 (by decide) (by omega)]) (fun f _ _ => hB1 f (by omega)) (hF 1 (by omega)), a3.tr a2.1 kk (g 0 3 (by omega) (by omega)) (gq 2 (by decide) (by omega)) (hB1 11 (by omega)) (hF 10 (by omega)), ⟨⟨gsG_eq _ _ _ _, h12, by omega⟩, fun i hi => ?_, fun j hj => ?_, by unfold mo_b8; rw [hB1 13 (by omega)]; exact a4.2.2.2.1, fun y hy => by rw [hB1 13 (by omega)]; exact a4.2.2.2.2.1 y (by omega), fun j => ⟨fun hj => by rw [hB 15 (by omega) (by omega)]; exact (a4.2.2.2.2.2 j).1 (by omega), by rw [hB 15 (by omega) (by omega)]; exact (a4.2.2.2.2.2 j).2⟩⟩, ⟨⟨fun i h hi hh => ?_, fun x hx => by rw [hB 20 (by omega) (by omega), hB 21 (by omega) (by omega)]; exact a5.2 x hx⟩, (a6.tr (B' := B') (fun f _ _ => hB f (by omega) (by omega)) (hB 24 (by omega) (by omega))).up (by omega)⟩, a7.tr (g 0 12 (by omega) (by omega)) ⟨gA 8 (by omega), gA 9 (by omega)⟩ (hB 23 (by omega) (by omega)) (hB 24 (by omega) (by omega)) (hF 22 (by omega)), ⟨⟨(g 0 7 (by omega) (by omega)).trans a8.1.1, (hF 25 (by omega)).trans a8.1.2.1, a8.1.2.2⟩, fun f hf => ?_⟩, ⟨⟨(g 0 11 (by omega) (by omega)).trans a9.1.1, (hF 29 (by omega)).trans a9.1.2.1, a9.1.2.2⟩, fun k hk => ?_, fun k hk hk2 => ?_, a9.2.2.2.1, fun j hj h1 => ?_, fun k hk => ?_⟩, a10.tr (g 14 0 (by omega) (by omega)) (g 14 1 (by omega) (by omega)) (g 0 17 (by omega) (by omega)) ⟨hF 33 (by omega), hF 34 (by omega), hF 35 (by omega)⟩⟩
  · rcases List.mem_append.mp hk9 with h | h
    · rcases List.mem_append.mp h with h | h
      · have := a1.2 k h; omega
      · rw [List.mem_singleton] at h; omega
    · rw [inK_m] at h; omega
  · by_cases e : i = ni
    · subst e
      refine ⟨⟨?_, ?_, ?_, ?_, ?_, ?_, ?_, fun h hh => ⟨?_, ?_⟩⟩, ?_, ?_, ?_, fun a ha => ?_⟩
      · exact List.mem_append_left _ (List.mem_append_right _ (List.mem_singleton.mpr rfl))
      · exact List.mem_append_right _ (inK_m.mpr (by omega))
      · exact List.mem_append_right _ (inK_m.mpr (by omega))
      · rw [gn _ _ (by omega)]; exact q7
      · rw [gn _ _ (by omega)]; exact q8
      · rw [q2, va_up_ne _ _ (by omega), va_up_self]
      · rw [q2, va_up_self]
      · exact List.mem_append_right _ (inK_m.mpr (by omega))
      · show up2 S2.2.2.1 3 i _ (202 + 20 * i) h = _
        rw [up2_ne _ _ (by omega)]
        exact (q12 h hh).1
      · rw [gq3, if_pos rfl]
      · rw [gn _ _ (by omega), q9, e14, upd_eq]
      · rw [gn _ _ (by omega), q10, hB 15 (by omega) (by omega), (a4.2.2.2.2.2 i).1 (Nat.le_refl _)]
      · show S2.2.1 (201 + 20 * i) a = _
        rw [q11, hB1 13 (by omega), a4.2.2.2.2.1 _ (by omega)]
    · have hi8 : i < ni := by omega
      obtain ⟨c1, c2, c3, c4, c5⟩ := a4.of (S' := ni_S S2 ni (am2 (200 + 20 * ni))) kk (fun i j hi _ => g _ j (by omega) (by omega)) (fun i hi => gA _ (by omega)) (fun i hi => ⟨gq _ (by omega) (by omega), by rw [gq3, if_neg (by omega)]⟩) hi8
      refine ⟨c1, c2, by rw [c3, e14, upd_ne e], by rw [c4, hB 15 (by omega) (by omega)], fun a ha => by rw [hB1 13 (by omega)]; exact c5 a ha⟩
  · rw [e14]
    by_cases e : j = ni
    · subst e; rw [upd_eq, va_up_self]; exact ⟨rfl, by decide⟩
    · rw [upd_ne e, va_up_ne _ _ e]; exact a4.2.2.1 j hj
  · by_cases e : i = ni
    · subst e
      obtain ⟨-, -, w2, w3, -⟩ := (q12 h hh).2
      have z16 : B' 16 (17 * i + h + 1) = 0 := by rw [hB 16 (by omega) (by omega)]; exact h16 h hh
      refine ⟨?_, ?_, fun z => absurd z16 z⟩
      · rw [gn _ _ (by omega), w3, hof, if_pos z16]
      · rw [gn _ _ (by omega), w2]
        have l0 : lnB B' (17 * i + h + 1) = lnB B (17 * i + h + 1) := by
          rw [lnB, lnB, ln_z (fun x => by rw [hB 16 (by omega) (by omega)]) (hB 18 (by omega) (by omega)) (hB 19 (by omega) (by omega)), hB 21 (by omega) (by omega)]
        rw [l0, a6.ln0 (by omega) a5.2 (by omega) (h16 h hh)]
    · exact HR.up ((a5.1.tr (S' := ni_S S2 ni (am2 (200 + 20 * ni))) (B' := B') (fun i hi => (a4.2.1 i hi).1) kk (fun i h j hi hh => g _ j (by omega) (by omega)) (fun f _ _ => hB f (by omega) (by omega))) i h (by omega) hh) (by omega)
  · obtain ⟨-, c1, c2, c3, c4⟩ := a8.2 f hf
    obtain ⟨d1, d2, d3, d4, d5, d6, d7⟩ := a8.of (S' := ni_S S2 ni (am2 (200 + 20 * ni))) a2.1 kk (fun f j hf => g _ j (by omega) (by omega)) (fun f hf => by rw [gq 4 (by decide) (by omega)]) hf
    rw [hB 26 (by omega) (by omega), hB 27 (by omega) (by omega), hB 28 (by omega) (by omega), rT.lb (hB1 2 (by omega))]
    exact ⟨⟨d1, d2, d3, d4, d5, by omega, d7⟩, c1, c2, c3, c4⟩
  · rw [gA 5 (by omega), gA 7 (by omega), hB 30 (by omega) (by omega), hB 15 (by omega) (by omega), hB 32 (by omega) (by omega)]
    obtain ⟨b1, b2, b3, b4, b5⟩ := a9.2.1 k hk
    exact ⟨b1, b2, by omega, b4, b5⟩
  · rw [gA 6 (by omega), hB 31 (by omega) (by omega)]
    exact a9.2.2.1 k hk hk2
  · rw [hB 15 (by omega) (by omega)] at h1
    rcases Nat.lt_or_ge j ni with e | e
    · exact a9.2.2.2.2.1 j e h1
    · rw [(a4.2.2.2.2.2 j).1 e] at h1; exact absurd h1 (by decide)
  · rw [hB 30 (by omega) (by omega)]; exact a9.2.2.2.2.2 k hk
end RRn
