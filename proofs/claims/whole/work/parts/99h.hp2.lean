/-! what a writing does to handles: pure rows -/
theorem wi_l_k {F : Nat → Int32} {B : Nat → Nat → Int32} {ii J it to hp k al mn fr : Nat} {tx : Prop} {dx : Decidable tx} : (∀ f, f = 16 ∨ f = 17 ∨ f = 18 ∨ f = 19 ∨ f = 53 → (wi_l F B ii J it to hp k al mn fr tx).2 f = B f) ∧ (wi_l F B ii J it to hp k al mn fr tx).1 52 = F 52 := by
  unfold wi_l
  split
  · refine ⟨fun f hf => ?_, mo_flk F _ _ (by decide) (by decide)⟩
    dsimp only
    rw [va_up_ne _ _ (by omega), wt_ne (by omega)]
  · refine ⟨fun f hf => ?_, rfl⟩
    dsimp only
    rw [va_up_ne _ _ (by omega), va_up_ne _ _ (by omega), va_up_ne _ _ (by omega), va_up_ne _ _ (by omega), wt_ne (by omega)]
theorem wi_c (F : Nat → Int32) (B : Nat → Nat → Int32) (ii J it uu to : Nat) : ((∀ f, f = 16 ∨ f = 17 ∨ f = 18 ∨ f = 19 ∨ f = 53 → (wi_1 F B ii J it uu to).2 f = B f) ∧ (wi_1 F B ii J it uu to).1 52 = F 52 ∧ (¬ B 2 uu ≤ 10 → F 54 = 0 → ¬ (wi_1 F B ii J it uu to).1 54 = 0)) ∨ (¬ B 2 uu ≤ 10 ∧ ∃ y, 17 * J < y ∧ y ≤ 17 * J + 16 ∧ B 16 y = 0 ∧ (wi_1 F B ii J it uu to).1 52 = F 52 + 1 ∧ (wi_1 F B ii J it uu to).2 16 = upd (B 16) y 1 ∧ (wi_1 F B ii J it uu to).2 17 = upd (B 17) y (B 17 (B 48 it).toNatClampNeg) ∧ (wi_1 F B ii J it uu to).2 18 = upd (B 18) y (if B 2 (B 44 it).toNatClampNeg = 11 then 1 else 0) ∧ (wi_1 F B ii J it uu to).2 19 = upd (B 19) y (B 48 it) ∧ (wi_1 F B ii J it uu to).2 53 = upd (B 53) (F 52).toNatClampNeg (nI y)) := by
  unfold wi_1
  by_cases k6 : B 2 uu = 6
  · rw [if_pos k6]
    exact Or.inl ⟨wi_l_k.1, wi_l_k.2, fun z => absurd (show B 2 uu ≤ 10 by rw [k6]; decide) z⟩
  rw [if_neg k6]
  by_cases k8 : B 2 uu = 8
  · rw [if_pos k8]
    exact Or.inl ⟨wi_l_k.1, wi_l_k.2, fun z => absurd (show B 2 uu ≤ 10 by rw [k8]; decide) z⟩
  rw [if_neg k8]
  by_cases k10 : ¬ B 2 uu ≤ 10
  · rw [if_pos k10]
    have w : ∀ f, f ≠ 50 → wi_t B it to f = B f := fun f hf => wt_ne hf
    by_cases h0 : mo_fh (wi_t B it to 16) (17 * J) 16 = 0
    · rw [wh_0 h0]
      exact Or.inl ⟨fun f hf => w f (by omega), mo_flk F _ _ (by decide) (by decide), fun _ z => by show ¬ mo_fl F 12 (wi_t B it to 45 it) 54 = 0; rw [(mo_fl54 z _ _).1]; decide⟩
    · refine Or.inr ⟨k10, 17 * J + mo_fh (B 16) (17 * J) 16, ?_⟩
      rw [w 16 (by decide)] at h0
      obtain ⟨g1, g2, g3⟩ := (mo_fh_ok (B 16) (17 * J) 16 (Nat.le_refl _)).resolve_left h0
      obtain ⟨a1, a2, a3, a4, a5, a6, -⟩ := wh_f (F := F) (B := wi_t B it to) (J := J) (it := it) (by rw [w 16 (by decide)]) h0
      refine ⟨by omega, by omega, g3, ?_, ?_, ?_, ?_, ?_, ?_⟩
      · rw [a1, upd_eq]
      · rw [a2, w 16 (by decide)]
      · rw [a4, w 17 (by decide), w 48 (by decide)]
      · rw [a3, w 18 (by decide), w 2 (by decide), w 44 (by decide)]
      · rw [a5, w 19 (by decide), w 48 (by decide)]
      · rw [mo_wh, if_neg (by rw [w 16 (by decide)]; exact h0)]
        dsimp only
        rw [va_up_ne _ _ (by decide), va_up_self, w 53 (by decide), w 16 (by decide)]
  rw [if_neg k10]
  refine Or.inl ?_
  have k10' := Decidable.of_not_not k10
  split
  · exact ⟨fun f hf => wt_ne (by omega), rfl, fun z => absurd k10' z⟩
  · refine ⟨fun f hf => ?_, rfl, fun z => absurd k10' z⟩
    dsimp only
    rw [va_up_ne _ _ (by omega), wt_ne (by omega)]
theorem ln_ad {B B' : Nat → Nat → Int32} {y : Nat} {ow frm : Int32} (h0 : B 16 y = 0) (e16 : B' 16 = upd (B 16) y 1) (e18 : B' 18 = upd (B 18) y ow) (e19 : B' 19 = upd (B 19) y frm) (x p : Int32) : ∀ n, mo_ln B' x p n = if y < n ∧ ow = 0 ∧ frm = x then mo_ln B x p n + 1 else mo_ln B x p n := by
  intro n
  induction n with
  | zero => rw [if_neg (fun z => absurd z.1 (Nat.not_lt_zero y))]; rfl
  | succ n ih =>
    rw [mo_ln, mo_ln, e16, e18, e19, ih]
    by_cases e : n = y
    · subst e
      have a1 : ¬ (n < n ∧ ow = 0 ∧ frm = x) := fun z => absurd z.1 (Nat.lt_irrefl n)
      have a2 : ¬ (¬ B 16 n = 0 ∧ B 18 n = 0 ∧ B 19 n = x) := fun z => z.1 h0
      rw [upd_eq, upd_eq, upd_eq, if_neg a1, if_neg a2]
      by_cases c : ow = 0 ∧ frm = x
      · rw [if_pos (show ¬ (1 : Int32) = 0 ∧ ow = 0 ∧ frm = x from ⟨by decide, c⟩), if_pos (show n < n + 1 ∧ ow = 0 ∧ frm = x from ⟨Nat.lt_succ_self n, c⟩)]
      · rw [if_neg (show ¬ (¬ (1 : Int32) = 0 ∧ ow = 0 ∧ frm = x) from fun z => c z.2), if_neg (show ¬ (n < n + 1 ∧ ow = 0 ∧ frm = x) from fun z => c z.2)]
    · rw [upd_ne e, upd_ne e, upd_ne e]
      by_cases c : ¬ B 16 n = 0 ∧ B 18 n = 0 ∧ B 19 n = x
      · rw [if_pos c, if_pos c]
        by_cases d : y < n ∧ ow = 0 ∧ frm = x
        · rw [if_pos d, if_pos ⟨by omega, d.2⟩]
        · rw [if_neg d, if_neg (fun z => d ⟨by omega, z.2⟩)]
      · rw [if_neg c, if_neg c]
        by_cases d : y < n ∧ ow = 0 ∧ frm = x
        · rw [if_pos d, if_pos ⟨by omega, d.2⟩]
        · rw [if_neg d, if_neg (fun z => d ⟨by omega, z.2⟩)]
theorem nbw_le (B : Nat → Nat → Int32) (x : Nat) : ∀ n k, k ≤ n → nbw B x k ≤ nbw B x n := by
  intro n
  induction n with
  | zero => intro k h; have : k = 0 := by omega
            subst this; exact Nat.le_refl _
  | succ n ih =>
    intro k h
    by_cases e : k = n + 1
    · rw [e]; exact Nat.le_refl _
    · have := ih k (by omega)
      rw [nbw.eq_2 B x n]; split <;> omega
def wact (Bs : Nat → Nat → Int32) (n k : Nat) (B : Nat → Nat → Int32) (x : Nat) : Prop := ¬ B 16 x = 0 ∧ ¬ B 18 x = 0 ∧ (Bs 20 x = 0 ∨ ∃ k', k ≤ k' ∧ k' < n ∧ kdI Bs k' = 11 ∧ Bs 48 k' = nI x)
/-- the tables while k of n items are written -/
def WP (Bs : Nat → Nat → Int32) (i J n k : Nat) (B : Nat → Nat → Int32) : Prop :=
  wr_sm Bs B ∧ (∀ x, ¬ Bs 16 x = 0 → B 16 x = Bs 16 x ∧ B 17 x = Bs 17 x ∧ B 18 x = Bs 18 x ∧ B 19 x = Bs 19 x) ∧ (∀ x, ¬ B 16 x = 0 → Bs 16 x = 0 → 17 * J < x ∧ x ≤ 17 * J + 16 ∧ ∃ k' z, k' < n ∧ Bs 48 k' = nI z ∧ 17 * i < z ∧ z ≤ 17 * i + 16 ∧ ¬ Bs 16 z = 0 ∧ B 17 x = Bs 17 z ∧ B 19 x = nI z ∧ ((kdI Bs k' = 11 ∧ B 18 x = 1) ∨ (kdI Bs k' = 12 ∧ B 18 x = 0))) ∧ (∀ x y, wact Bs n k B x → wact Bs n k B y → B 17 x = B 17 y → x = y) ∧ ∀ x, x < 102 → mo_ln B (nI x) (nI (nbw Bs x n - nbw Bs x k)) 102 = lnB Bs x
theorem WP.st {B0 Bs B : Nat → Nat → Int32} {i J n k to : Nat} {F : Nat → Int32} (hR : RT B0 i n Bs) (hi : i < 6) (hJ : J < 6) (hk : k < n) (h : WP Bs i J n k B) (h0 : F 54 = 0) (h1 : (wi_1 F B i J k (B 44 k).toNatClampNeg to).1 54 = 0) : WP Bs i J n (k + 1) (wi_1 F B i J k (B 44 k).toNatClampNeg to).2 := by
  obtain ⟨p1, p2, p3, p4, p5⟩ := h
  obtain ⟨r1, r2, r3, r4⟩ := hR
  have e2 : B 2 = Bs 2 := p1 2 (by decide) (by decide) (by decide) (by decide) (by decide) (by decide) (by decide) (by decide) (by decide)
  have e44 : B 44 = Bs 44 := p1 44 (by decide) (by decide) (by decide) (by decide) (by decide) (by decide) (by decide) (by decide) (by decide)
  have e48 : B 48 = Bs 48 := p1 48 (by decide) (by decide) (by decide) (by decide) (by decide) (by decide) (by decide) (by decide) (by decide)
  have ekd : B 2 (B 44 k).toNatClampNeg = kdI Bs k := by rw [e2, e44]; rfl
  have sm := p1.tr (wi_sm F B i J k (B 44 k).toNatClampNeg to)
  rcases wi_c F B i J k (B 44 k).toNatClampNeg to with ⟨c1, -, c3⟩ | ⟨c0, y, y1, y2, y3, -, y16, y17, y18, y19, -⟩
  · obtain ⟨W, eW⟩ : ∃ W, W = (wi_1 F B i J k (B 44 k).toNatClampNeg to).2 := ⟨_, rfl⟩
    rw [← eW] at c1 sm ⊢
    have k10 : kdI Bs k ≤ 10 := Decidable.byContradiction (fun z => c3 (by rw [ekd]; exact z) h0 h1)
    have f := fun f hf => c1 f hf
    have act : ∀ x, wact Bs n (k + 1) W x → wact Bs n k B x := fun x hx => by
      obtain ⟨a, b, c⟩ := hx
      rw [f 16 (by omega)] at a
      rw [f 18 (by omega)] at b
      exact ⟨a, b, c.imp_right (fun ⟨k', z1, z2⟩ => ⟨k', by omega, z2⟩)⟩
    refine ⟨sm, fun x hx => ?_, fun x hx hs => ?_, fun x y hx hy e => ?_, fun x hx => ?_⟩
    · rw [f 16 (by omega), f 17 (by omega), f 18 (by omega), f 19 (by omega)]; exact p2 x hx
    · rw [f 16 (by omega)] at hx
      rw [f 17 (by omega), f 18 (by omega), f 19 (by omega)]; exact p3 x hx hs
    · rw [f 17 (by omega)] at e
      exact p4 x y (act x hx) (act y hy) e
    · rw [mo_ln_c (f 16 (by omega)) (f 18 (by omega)) (f 19 (by omega)), nbw.eq_2 Bs x k, if_neg (fun z => absurd k10 (by rw [show kdI Bs k = 12 from z.1]; decide))]
      exact p5 x hx
  · obtain ⟨W, eW⟩ : ∃ W, W = (wi_1 F B i J k (B 44 k).toNatClampNeg to).2 := ⟨_, rfl⟩
    rw [← eW] at y16 y17 y18 y19 sm ⊢
    rw [ekd] at c0 y18
    obtain ⟨z, z1, z2, z3, z4, z5⟩ := r3 k hk c0
    have hy0 : Bs 16 y = 0 := Decidable.byContradiction (fun w => w (by rw [← (p2 y w).1]; exact y3))
    rw [e48, z1, nI_clamp (by omega), (p2 z z4).2.1] at y17
    rw [e48, z1] at y19
    have ny : ∀ x, ¬ Bs 16 x = 0 → x ≠ y := fun x hx e => hx (by rw [e]; exact hy0)
    have old : ∀ x, ¬ Bs 16 x = 0 → W 16 x = Bs 16 x ∧ W 17 x = Bs 17 x ∧ W 18 x = Bs 18 x ∧ W 19 x = Bs 19 x := fun x hx => by
      rw [y16, y17, y18, y19, upd_ne (ny x hx), upd_ne (ny x hx), upd_ne (ny x hx), upd_ne (ny x hx)]; exact p2 x hx
    have fre : ∀ x, ¬ W 16 x = 0 → Bs 16 x = 0 → 17 * J < x ∧ x ≤ 17 * J + 16 ∧ ∃ k' z, k' < n ∧ Bs 48 k' = nI z ∧ 17 * i < z ∧ z ≤ 17 * i + 16 ∧ ¬ Bs 16 z = 0 ∧ W 17 x = Bs 17 z ∧ W 19 x = nI z ∧ ((kdI Bs k' = 11 ∧ W 18 x = 1) ∨ (kdI Bs k' = 12 ∧ W 18 x = 0)) := fun x hx hs => by
      by_cases e : x = y
      · subst e
        refine ⟨y1, y2, k, z, hk, z1, z2, z3, z4, by rw [y17, upd_eq], by rw [y19, upd_eq], ?_⟩
        rw [y18, upd_eq]
        rcases z5 with z5 | z5
        · exact Or.inl ⟨z5.1, if_pos z5.1⟩
        · exact Or.inr ⟨z5, if_neg (by rw [z5]; decide)⟩
      · rw [y16, upd_ne e] at hx
        rw [y17, y18, y19, upd_ne e, upd_ne e, upd_ne e]; exact p3 x hx hs
    have act : ∀ x, x ≠ y → wact Bs n (k + 1) W x → wact Bs n k B x := fun x hne hx => by
      obtain ⟨a, b, c⟩ := hx
      rw [y16, upd_ne hne] at a
      rw [y18, upd_ne hne] at b
      exact ⟨a, b, c.imp_right (fun ⟨k', z1, z2⟩ => ⟨k', by omega, z2⟩)⟩
    have lnW := ln_ad y3 y16 y18 y19
    rcases z5 with ⟨z5, z6⟩ | z5
    · -- it is passed on
      have actz : wact Bs n k B z := ⟨by rw [(p2 z z4).1]; exact z4, by rw [(p2 z z4).2.2.1]; exact (r2 z (by omega) z6).2.1, Or.inr ⟨k, Nat.le_refl k, hk, z5, z1⟩⟩
      have nz : ∀ x, x ≠ y → wact Bs n (k + 1) W x → ¬ W 17 x = Bs 17 z := fun x hne hx e => by
        rw [y17, upd_ne hne, ← (p2 z z4).2.1] at e
        have ez := p4 x z (act x hne hx) actz e
        subst ez
        obtain ⟨-, -, c | ⟨k', d1, d2, d3, d4⟩⟩ := hx
        · exact z6 c
        · exact r4 k k' d1 d2 z5 d3 (z1.trans d4.symm)
      refine ⟨sm, old, fre, fun x x' hx hx' e => ?_, fun x hx => ?_⟩
      · by_cases e1 : x = y
        · by_cases e2 : x' = y
          · rw [e1, e2]
          · exact absurd (by rw [← e, e1, y17, upd_eq]) (nz x' e2 hx')
        · by_cases e2 : x' = y
          · exact absurd (by rw [e, e2, y17, upd_eq]) (nz x e1 hx)
          · rw [y17, upd_ne e1, upd_ne e2] at e
            exact p4 x x' (act x e1 hx) (act x' e2 hx') e
      · rw [lnW, if_pos z5, if_neg (fun w => absurd w.2.1 (by decide)), nbw.eq_2 Bs x k, if_neg (fun w => absurd (z5.symm.trans w.1) (by decide))]
        exact p5 x hx
    · -- it is lent
      have n11 : ¬ kdI Bs k = 11 := by rw [z5]; decide
      rw [if_neg n11] at y18
      refine ⟨sm, old, fre, fun x x' hx hx' e => ?_, fun x hx => ?_⟩
      · have e1 : x ≠ y := fun w => hx.2.1 (by rw [w, y18, upd_eq])
        have e2 : x' ≠ y := fun w => hx'.2.1 (by rw [w, y18, upd_eq])
        rw [y17, upd_ne e1, upd_ne e2] at e
        exact p4 x x' (act x e1 hx) (act x' e2 hx') e
      · have hle := nbw_le Bs x n (k + 1) hk
        have hp := p5 x hx
        rw [lnW, if_neg n11]
        by_cases ez : z = x
        · subst ez
          have en : nbw Bs z (k + 1) = nbw Bs z k + 1 := by rw [nbw.eq_2 Bs z k, if_pos ⟨z5, z1⟩]
          rw [if_pos ⟨by omega, rfl, rfl⟩, ← ln_p, nI_1, show nbw Bs z n - nbw Bs z (k + 1) + 1 = nbw Bs z n - nbw Bs z k by omega]
          exact hp
        · have en : nbw Bs x (k + 1) = nbw Bs x k := by rw [nbw.eq_2 Bs x k, if_neg (fun w => ez (n_eq z x (z1.symm.trans w.2)))]
          rw [if_neg (fun w => ez (n_eq z x w.2.2)), en]
          exact hp
theorem wl_n0 {ii J : Nat} : ∀ (m k : Nat) (F : Nat → Int32) (B : Nat → Nat → Int32), ¬ F 54 = 0 → wl ii J m k F B = (F, B) := by
  intro m k F B h
  cases m with
  | zero => rfl
  | succ m => rw [wl, if_neg h]
theorem wl_WP {B0 Bs : Nat → Nat → Int32} {i J n : Nat} (hR : RT B0 i n Bs) (hi : i < 6) (hJ : J < 6) : ∀ (m k : Nat) (F : Nat → Int32) (B : Nat → Nat → Int32), k + m = n → WP Bs i J n k B → (wl i J m k F B).1 54 = 0 → WP Bs i J n n (wl i J m k F B).2 := by
  intro m
  induction m with
  | zero => intro k F B e h _; rw [wl]; have : k = n := by omega
            subst this; exact h
  | succ m ih =>
    intro k F B e h h1
    by_cases h0 : F 54 = 0
    · rw [wl, if_pos h0] at h1 ⊢
      by_cases h2 : (wi_1 F B i J k (B 44 k).toNatClampNeg (wi_to B k).toNatClampNeg).1 54 = 0
      · exact ih (k + 1) _ _ (by omega) (h.st hR hi hJ (by omega) h0 h2) h1
      · rw [wl_n0 _ _ _ _ h2] at h1
        exact absurd h1 h2
    · rw [wl_n0 _ _ _ _ h0] at h1
      exact absurd h1 h0
theorem WP.b0 {B0 Bs : Nat → Nat → Int32} {i J n pl s : Nat} (hR : RT B0 i n Bs) (hP : RP Bs n) (hO : ∀ x y, ¬ Bs 16 x = 0 → ¬ Bs 18 x = 0 → ¬ Bs 16 y = 0 → ¬ Bs 18 y = 0 → Bs 17 x = Bs 17 y → x = y) : WP Bs i J n 0 (pw_B Bs J pl s) := by
  have f : ∀ f, f = 16 ∨ f = 17 ∨ f = 18 ∨ f = 19 → pw_B Bs J pl s f = Bs f := fun f hf => pwB_ne (by omega) (by omega) (by omega)
  refine ⟨fun g h1 h2 _ _ _ _ h7 _ _ => pwB_ne h1 h2 h7, fun x _ => ?_, fun x hx hs => ?_, fun x y hx hy e => ?_, fun x hx => ?_⟩
  · rw [f 16 (by omega), f 17 (by omega), f 18 (by omega), f 19 (by omega)]; exact ⟨rfl, rfl, rfl, rfl⟩
  · rw [f 16 (by omega)] at hx; exact absurd hs hx
  · have a1 := hx.1
    have a2 := hx.2.1
    have b1 := hy.1
    have b2 := hy.2.1
    rw [f 16 (by omega)] at a1 b1
    rw [f 18 (by omega)] at a2 b2
    rw [f 17 (by omega)] at e
    exact hO x y a1 a2 b1 b2 e
  · rw [mo_ln_c (f 16 (by omega)) (f 18 (by omega)) (f 19 (by omega)), lnB, hP x hx]; rfl
/-- the handles made while a value is written, as they are listed -/
def WL (Bs : Nat → Nat → Int32) (J : Nat) (F : Nat → Int32) (B : Nat → Nat → Int32) : Prop := fr_ok J F B ∧ (∀ x, ¬ Bs 16 x = 0 → B 16 x = Bs 16 x ∧ B 17 x = Bs 17 x ∧ B 18 x = Bs 18 x ∧ B 19 x = Bs 19 x) ∧ ∃ fn, F 52 = nI fn ∧ fn ≤ 16 ∧ (∀ j, j < fn → ∃ x, B 53 j = nI x ∧ x < 102 ∧ ¬ B 16 x = 0 ∧ Bs 16 x = 0) ∧ ∀ x, ¬ B 16 x = 0 → Bs 16 x = 0 → x < 102 ∧ ∃ j, j < fn ∧ B 53 j = nI x
theorem WL.st {Bs B : Nat → Nat → Int32} {i J k uu to : Nat} {F : Nat → Int32} (hJ : J < 6) (h : WL Bs J F B) : WL Bs J (wi_1 F B i J k uu to).1 (wi_1 F B i J k uu to).2 := by
  obtain ⟨p1, p2, fn, q1, q2, q3, q4⟩ := h
  have fo := wi_fr (ii := i) (it := k) (uu := uu) (to := to) p1
  rcases wi_c F B i J k uu to with ⟨c1, c2, -⟩ | ⟨-, y, y1, y2, y3, y52, y16, y17, y18, y19, y53⟩
  · obtain ⟨W, eW⟩ : ∃ W, W = wi_1 F B i J k uu to := ⟨_, rfl⟩
    rw [← eW] at c1 c2 fo ⊢
    refine ⟨fo, fun x hx => ?_, fn, c2.trans q1, q2, fun j hj => ?_, fun x hx hs => ?_⟩
    · rw [c1 16 (by omega), c1 17 (by omega), c1 18 (by omega), c1 19 (by omega)]; exact p2 x hx
    · rw [c1 53 (by omega), c1 16 (by omega)]; exact q3 j hj
    · rw [c1 16 (by omega)] at hx
      rw [c1 53 (by omega)]; exact q4 x hx hs
  · obtain ⟨W, eW⟩ : ∃ W, W = wi_1 F B i J k uu to := ⟨_, rfl⟩
    rw [← eW] at y16 y17 y18 y19 y52 y53 fo ⊢
    have hy0 : Bs 16 y = 0 := Decidable.byContradiction (fun w => w (by rw [← (p2 y w).1]; exact y3))
    have ny : ∀ x, ¬ Bs 16 x = 0 → x ≠ y := fun x hx e => hx (by rw [e]; exact hy0)
    rw [q1, nI_1] at y52
    rw [q1, nI_clamp (by omega)] at y53
    have hfn : fn + 1 ≤ 16 := by
      obtain ⟨fn', g1, g2, -⟩ := fo
      have g3 := mo_iu_le (W.2 16) (17 * J) 16
      have := n_eq (fn + 1) fn' (y52.symm.trans g1)
      omega
    refine ⟨fo, fun x hx => ?_, fn + 1, y52, hfn, fun j hj => ?_, fun x hx hs => ?_⟩
    · rw [y16, y17, y18, y19, upd_ne (ny x hx), upd_ne (ny x hx), upd_ne (ny x hx), upd_ne (ny x hx)]; exact p2 x hx
    · by_cases e : j = fn
      · subst e
        exact ⟨y, by rw [y53, upd_eq], by omega, by rw [y16, upd_eq]; decide, hy0⟩
      · obtain ⟨x, x1, x2, x3, x4⟩ := q3 j (by omega)
        refine ⟨x, by rw [y53, upd_ne e]; exact x1, x2, ?_, x4⟩
        rw [y16]
        by_cases e5 : x = y
        · rw [e5, upd_eq]; decide
        · rw [upd_ne e5]; exact x3
    · by_cases e : x = y
      · subst e; exact ⟨by omega, fn, Nat.lt_succ_self fn, by rw [y53, upd_eq]⟩
      · rw [y16, upd_ne e] at hx
        obtain ⟨x2, j, x3, x4⟩ := q4 x hx hs
        exact ⟨x2, j, by omega, by rw [y53, upd_ne (by omega)]; exact x4⟩
theorem wl_WL {Bs : Nat → Nat → Int32} {i J : Nat} (hJ : J < 6) : ∀ (m k : Nat) (F : Nat → Int32) (B : Nat → Nat → Int32), WL Bs J F B → WL Bs J (wl i J m k F B).1 (wl i J m k F B).2 := by
  intro m
  induction m with
  | zero => intro k F B h; exact h
  | succ m ih =>
    intro k F B h
    rw [wl]
    split
    · exact ih _ _ _ (h.st hJ)
    · exact h
theorem WL.b0 {Bs : Nat → Nat → Int32} {J pl s : Nat} {F : Nat → Int32} (h : F 52 = 0) : WL Bs J F (pw_B Bs J pl s) := by
  have f : ∀ f, f = 16 ∨ f = 17 ∨ f = 18 ∨ f = 19 → pw_B Bs J pl s f = Bs f := fun f hf => pwB_ne (by omega) (by omega) (by omega)
  refine ⟨⟨0, h, Nat.zero_le _, fun k hk => absurd hk (Nat.not_lt_zero k)⟩, fun x _ => ?_, 0, h, Nat.zero_le _, fun j hj => absurd hj (Nat.not_lt_zero j), fun x hx hs => ?_⟩
  · rw [f 16 (by omega), f 17 (by omega), f 18 (by omega), f 19 (by omega)]; exact ⟨rfl, rfl, rfl, rfl⟩
  · rw [f 16 (by omega)] at hx; exact absurd hs hx
theorem t1_at (u fo : Nat → Int32) (x : Nat) : ∀ n, ((∃ j, j < n ∧ (fo j).toNatClampNeg = x) → mo_t1 u fo n x = 0) ∧ ((¬ ∃ j, j < n ∧ (fo j).toNatClampNeg = x) → mo_t1 u fo n x = u x) := by
  intro n
  induction n with
  | zero => exact ⟨fun ⟨j, hj, _⟩ => absurd hj (Nat.not_lt_zero j), fun _ => rfl⟩
  | succ n ih =>
    rw [mo_t1]
    by_cases e : (fo n).toNatClampNeg = x
    · subst e
      exact ⟨fun _ => upd_eq, fun z => absurd ⟨n, Nat.lt_succ_self n, rfl⟩ z⟩
    · rw [upd_ne (fun z => e z.symm)]
      refine ⟨fun ⟨j, hj, h⟩ => ih.1 ⟨j, ?_, h⟩, fun z => ih.2 (fun ⟨j, hj, h⟩ => z ⟨j, by omega, h⟩)⟩
      by_cases ej : j = n
      · subst ej; exact absurd h e
      · omega
theorem t2_at (u ow : Nat → Int32) (x : Nat) : ∀ n, mo_t2 u ow n x = if x < n then (if ¬ u x = 0 ∧ ¬ ow x = 0 then 1 else 0) else u x := by
  intro n
  induction n with
  | zero => rw [if_neg (Nat.not_lt_zero x)]; rfl
  | succ n ih =>
    rw [mo_t2]
    by_cases e : x = n
    · subst e
      rw [if_neg (Nat.lt_irrefl x)] at ih
      rw [upd_eq, ih, if_pos (Nat.lt_succ_self x)]
    · rw [upd_ne e, ih]
      by_cases h : x < n
      · rw [if_pos h, if_pos (show x < n + 1 by omega)]
      · rw [if_neg h, if_neg (show ¬ x < n + 1 by omega)]
