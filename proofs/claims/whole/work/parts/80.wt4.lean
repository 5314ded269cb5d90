/-! the state of a writing -/
def frB (Bs B : Nat → Nat → Int32) (x : Nat) : Bool := decide (¬ B 16 x = 0) && decide (Bs 16 x = 0)
/-- what a writer stands on: sender i, receiver J -/
def ww (K : List Nat) (am N : Nat → Nat) (S : gS) (i J : Nat) : Prop := (va_nd K = true ∧ ∀ k, 10 ≤ k → k ≤ 16 → k ∈ K) ∧ (N 11 = 200 ∧ N 12 = 200 ∧ N 13 = 200) ∧ (S.1 16 0 = .ref (am (200 + 20 * i)) ∧ S.1 16 1 = .ref (am (200 + 20 * J)) ∧ S.1 16 2 = .ref (am 10) ∧ S.1 16 3 = .ref (am 14)) ∧ (S.1 10 0 = .ref (am 11) ∧ S.1 10 1 = .ref (am 12) ∧ S.1 10 2 = .ref (am 13)) ∧ (in_ok K am N S i ∧ i < 6) ∧ (in_ok K am N S J ∧ J < 6)
/-- what writing leaves as it was -/
def wkp (J : Nat) (S S' : gS) : Prop := (∀ k j, ¬ (k = 16 ∧ j = 4) → k ≠ 14 → ¬ (k = 200 + 20 * J ∧ j = 2) → ¬ gk k = 4 → S'.1 k j = S.1 k j) ∧ (∀ k, k ≠ 201 + 20 * J → S'.2.1 k = S.2.1 k) ∧ S'.2.2 = S.2.2
theorem wkp.rf (J : Nat) (S : gS) : wkp J S S := ⟨fun _ _ _ _ _ _ => rfl, fun _ _ => rfl, rfl⟩
theorem wkp.tr {J : Nat} {S S' S'' : gS} (a : wkp J S S') (b : wkp J S' S'') : wkp J S S'' := ⟨fun k j h1 h2 h3 h4 => (b.1 k j h1 h2 h3 h4).trans (a.1 k j h1 h2 h3 h4), fun k h => (b.2.1 k h).trans (a.2.1 k h), b.2.2.trans a.2.2⟩
theorem wkp.g {J : Nat} {S S' : gS} {k j : Nat} {v : Value} (a : wkp J S S') (h : (k = 16 ∧ j = 4) ∨ k = 14 ∨ (k = 200 + 20 * J ∧ j = 2) ∨ gk k = 4) : wkp J S (gsG S' k j v) := ⟨fun k' j' h1 h2 h3 h4 => by
  rw [gsG_nj]
  · exact a.1 k' j' h1 h2 h3 h4
  · by_cases e : k' = k
    · subst e
      refine Or.inr (fun z => ?_)
      subst z
      rcases h with h | h | h | h
      · exact h1 h
      · exact h2 h
      · exact h3 h
      · exact h4 h
    · exact Or.inl e, a.2.1, a.2.2⟩
theorem wkp.m {J : Nat} {S S' S'' : gS} (a : wkp J S S') (h1 : S''.1 = S'.1) (h2 : ∀ k, k ≠ 201 + 20 * J → S''.2.1 k = S'.2.1 k) (h3 : S''.2.2 = S'.2.2) : wkp J S S'' := ⟨by rw [h1]; exact a.1, fun k hk => (h2 k hk).trans (a.2.1 k hk), h3.trans a.2.2⟩
theorem wkp.sp {J : Nat} {S S' : gS} {c p : Int32} (a : wkp J S S') : wkp J S (sp_S S' c p) := (a.g (Or.inr (Or.inl rfl))).g (Or.inr (Or.inl rfl))
theorem in_ok.wk {K : List Nat} {am N : Nat → Nat} {S S' : gS} {i J : Nat} (h : in_ok K am N S i) (hi : i < 6) (a : wkp J S S') : in_ok K am N S' i := by
  obtain ⟨h1, h2, h3, h4, h5, h6, h7, h8⟩ := h
  have g5 : ¬ gk (200 + 20 * i) = 4 := by rw [(gk_in i hi).1]; decide
  refine ⟨h1, h2, h3, ?_, ?_, h6, h7, ?_⟩
  · rw [a.1 _ 0 (by omega) (by omega) (by omega) g5]; exact h4
  · rw [a.1 _ 1 (by omega) (by omega) (by omega) g5]; exact h5
  · rw [a.2.2]; exact h8
theorem ww.wk {K : List Nat} {am N : Nat → Nat} {S S' : gS} {i J : Nat} (h : ww K am N S i J) (a : wkp J S S') : ww K am N S' i J := by
  obtain ⟨h1, h2, ⟨a0, a1, a2, a3⟩, ⟨b0, b1, b2⟩, h5, h6⟩ := h
  have g16 : ¬ gk 16 = 4 := by decide
  have g10 : ¬ gk 10 = 4 := by decide
  refine ⟨h1, h2, ⟨?_, ?_, ?_, ?_⟩, ⟨?_, ?_, ?_⟩, ⟨h5.1.wk h5.2 a, h5.2⟩, ⟨h6.1.wk h6.2 a, h6.2⟩⟩
  · rw [a.1 16 0 (by omega) (by omega) (by omega) g16]; exact a0
  · rw [a.1 16 1 (by omega) (by omega) (by omega) g16]; exact a1
  · rw [a.1 16 2 (by omega) (by omega) (by omega) g16]; exact a2
  · rw [a.1 16 3 (by omega) (by omega) (by omega) g16]; exact a3
  · rw [a.1 10 0 (by omega) (by omega) (by omega) g10]; exact b0
  · rw [a.1 10 1 (by omega) (by omega) (by omega) g10]; exact b1
  · rw [a.1 10 2 (by omega) (by omega) (by omega) g10]; exact b2
theorem TyR.wk {K : List Nat} {am N : Nat → Nat} {S S' : gS} {B : Nat → Nat → Int32} {NT J : Nat} {ct : Nat → Nat} {pt : Nat → Nat → Nat} (h : TyR K am N S B NT ct pt) (a : wkp J S S') : TyR K am N S' B NT ct pt := by
  have g : ∀ n, n < 100 → ¬ gk (100 + n) = 4 := by decide +kernel
  refine h.tr (fun k j h1 h2 => a.1 k j (by omega) (by omega) (by omega) (fun z => ?_)) (fun k j h1 h2 => by rw [a.2.1 k (by omega)]) (by rw [a.2.2]) (fun _ _ _ => rfl)
  exact g (k - 100) (by omega) (by rw [show 100 + (k - 100) = k by omega]; exact z)
theorem IR.wk {S S' : gS} {B : Nat → Nat → Int32} {i NT n J : Nat} (h : IR S B i NT n) (a : wkp J S S') : IR S' B i NT n :=
  h.tr rfl rfl rfl rfl (kp.rf _ _) (fun k _ => ⟨by rw [a.2.1 11 (by omega)], by rw [a.2.1 13 (by omega)], by rw [a.2.2]⟩)
theorem me_all {S S' : gS} {B B' : Nat → Nat → Int32} {J ni : Nat} (hM : ∀ j, j < ni → me_R S B j) (hS : ∀ k, k ≠ 201 + 20 * J → S'.2.1 k = S.2.1 k) (hB : ∀ y, ¬ (256 * J ≤ y ∧ y < 256 * J + 256) → B' 13 y = B 13 y) (hJ : me_R S' B' J) : ∀ j, j < ni → me_R S' B' j := by
  intro j hj
  by_cases e : j = J
  · subst e; exact hJ
  · intro a ha
    rw [hS _ (by omega), hB _ (by omega)]
    exact hM j hj a ha
/-- one handle more -/
theorem HA.nw {am hd : Nat → Nat} {S S' : gS} {Bs B B' : Nat → Nat → Int32} {ln : Nat → Int32} {ni J h : Nat} {ow res frm : Int32} (H : HA am hd S B (frB Bs B) ln ni) (hJ : J < ni) (hh : h < 16) (hfs : Bs 16 (17 * J + h + 1) = 0) (h20 : B 20 (17 * J + h + 1) = 0) (hln : ln (17 * J + h + 1) = 0)
    (e16 : B' 16 = upd (B 16) (17 * J + h + 1) 1) (e17 : B' 17 = upd (B 17) (17 * J + h + 1) res) (e18 : B' 18 = upd (B 18) (17 * J + h + 1) ow) (e19 : B' 19 = upd (B 19) (17 * J + h + 1) frm) (e20 : B' 20 = B 20) (e23 : B' 23 = B 23)
    (hS : ∀ k j, k ≠ 203 + 20 * J + h → S'.1 k j = S.1 k j) (s0 : S'.1 (203 + 20 * J + h) 0 = .int res) (s1 : S'.1 (203 + 20 * J + h) 1 = .int (B 23 res.toNatClampNeg)) (s2 : S'.1 (203 + 20 * J + h) 2 = .int 0) (s3 : S'.1 (203 + 20 * J + h) 3 = .ref (hd (if ow = 0 then 2 else 4)))
    (s4 : ow = 0 → ∃ i' h', i' < ni ∧ h' < 16 ∧ frm = nI (17 * i' + h' + 1) ∧ S'.1 (203 + 20 * J + h) 4 = .ref (am (203 + 20 * i' + h'))) : HA am hd S' B' (frB Bs B') ln ni := by
  intro j g hj hg
  by_cases q : 17 * j + g + 1 = 17 * J + h + 1
  · obtain ⟨rfl, rfl⟩ := hx_inj hg hh q
    have o : hof B' (frB Bs B') (17 * j + g + 1) = if ow = 0 then 2 else 4 := by
      unfold hof
      rw [e16, upd_eq, if_neg (by decide), e20, if_neg (fun z => z h20), e18, upd_eq]
      have : frB Bs B' (17 * j + g + 1) = true := by
        unfold frB
        rw [e16, upd_eq, hfs]
        rfl
      rw [this]
      rfl
    refine ⟨by rw [o]; exact s3, by rw [hln]; exact s2, fun _ => ?_⟩
    rw [e17, e18, e19, e23, upd_eq, upd_eq, upd_eq]
    refine ⟨s0, s1, fun y => ?_⟩
    obtain ⟨i', h', x1, x2, x3, x4⟩ := s4 y
    exact ⟨i', h', x1, x2, x3, x4, by rw [e20]; exact h20⟩
  · obtain ⟨a, b, c⟩ := H j g hj hg
    have nk : 203 + 20 * j + g ≠ 203 + 20 * J + h := fun z => q (by have := hk_inj hg hh z; omega)
    have o : hof B' (frB Bs B') (17 * j + g + 1) = hof B (frB Bs B) (17 * j + g + 1) := by
      unfold hof frB
      rw [e16, upd_ne q, e20, e18, upd_ne q]
    unfold HR
    rw [o, hS _ _ nk, hS _ _ nk, hS _ _ nk, hS _ _ nk, hS _ _ nk, e16, e17, e18, e19, e20, e23, upd_ne q, upd_ne q, upd_ne q, upd_ne q]
    exact ⟨a, b, c⟩
theorem HA.fb {am hd : Nat → Nat} {S : gS} {Bs B B' : Nat → Nat → Int32} {ln : Nat → Int32} {ni : Nat} (H : HA am hd S B (frB Bs B) ln ni) (e : ∀ f, f = 16 ∨ f = 17 ∨ f = 18 ∨ f = 19 ∨ f = 20 ∨ f = 23 → B' f = B f) : HA am hd S B' (frB Bs B') ln ni := by
  intro j g hj hg
  have h := H j g hj hg
  unfold HR hof frB at h ⊢
  rw [e 16 (by omega), e 17 (by omega), e 18 (by omega), e 19 (by omega), e 20 (by omega), e 23 (by omega)]
  exact h
/-- what changes in the tables and the class's cells while items are written -/
def WM (am hd : Nat → Nat) (S : gS) (Bs B : Nat → Nat → Int32) (i J ni : Nat) : Prop := (∀ j, j < ni → me_R S B j) ∧ S.1 (200 + 20 * J) 2 = .int (B 14 J) ∧ HA am hd S B (frB Bs B) (lnB Bs) ni ∧ (∀ a, a < 256 → B 13 (256 * i + a) = Bs 13 (256 * i + a)) ∧ (∀ x, ¬ Bs 16 x = 0 → ¬ B 16 x = 0) ∧ (∀ x, ¬ (17 * J < x ∧ x ≤ 17 * J + 16) → B 16 x = Bs 16 x) ∧ ∀ h, h < 16 → B 20 (17 * J + h + 1) = 0
def WS (K : List Nat) (am N hd : Nat → Nat) (S : gS) (Bs : Nat → Nat → Int32) (F : Nat → Int32) (B : Nat → Nat → Int32) (i J NT ni n : Nat) (ct : Nat → Nat) (pt : Nat → Nat → Nat) (sz : Nat → Nat) (k : Nat) : Prop :=
  ww K am N S i J ∧ TyR K am N S Bs NT ct pt ∧ IR S Bs i NT n ∧ S.1 16 4 = .int (nI k) ∧ wr_iv Bs NT sz J F B k ∧ F 54 = 0 ∧ WM am hd S Bs B i J ni
/-- what holds all the time: the tables when the writing begins -/
def WC (Bs : Nat → Nat → Int32) (i J NT ni n : Nat) (ct dp : Nat → Nat) (pt : Nat → Nat → Nat) (sz al : Nat → Nat) : Prop :=
  (i < ni ∧ J < ni ∧ ni ≤ 6 ∧ i ≠ J) ∧ mo_b8 Bs ∧ ty_wf Bs NT ct dp pt ∧ ty_rd Bs NT ct ∧ ty_sz Bs NT ct pt sz al ∧ (∀ t, t < NT → al t = 1 ∨ al t = 2 ∨ al t = 4 ∨ al t = 8) ∧ n ≤ 200 ∧ (∀ k, k < n → it_k Bs NT sz k) ∧ ∀ x, 17 * J < x → x ≤ 17 * J + 16 → Bs 16 x = 0 → lnB Bs x = 0
def WQ (K : List Nat) (am N hd : Nat → Nat) (ks : Nat → ClassId) (S : gS) (Bs : Nat → Nat → Int32) (i J NT ni n : Nat) (ct : Nat → Nat) (pt : Nat → Nat → Nat) (sz : Nat → Nat) (k' : Nat) (x : (Nat → Int32) × (Nat → Nat → Int32)) (r : Option Value) (w : va_W) : Prop :=
  ∃ y S1, w = gw K am ks N S1 ∧ r = some (.int y) ∧ wkp J S S1 ∧ ((x.1 54 = 0 ∧ y = 1 ∧ S1.1 14 = S.1 14 ∧ WS K am N hd S1 Bs x.1 x.2 i J NT ni n ct pt sz k') ∨ (¬ x.1 54 = 0 ∧ y = 0 ∧ S1.1 14 0 = .int (x.1 54) ∧ S1.1 14 1 = .int (x.1 55) ∧ (∀ j, j < ni → me_R S1 x.2 j) ∧ HA am hd S1 x.2 (frB Bs x.2) (lnB Bs) ni))
theorem WQ.tr {K : List Nat} {am N hd : Nat → Nat} {ks : Nat → ClassId} {S S1 : gS} {Bs : Nat → Nat → Int32} {i J NT ni n : Nat} {ct : Nat → Nat} {pt : Nat → Nat → Nat} {sz : Nat → Nat} {k' : Nat} {x : (Nat → Int32) × (Nat → Nat → Int32)} {r : Option Value} {w : va_W} (a : wkp J S S1) (b : S1.1 14 = S.1 14) (h : WQ K am N hd ks S1 Bs i J NT ni n ct pt sz k' x r w) : WQ K am N hd ks S Bs i J NT ni n ct pt sz k' x r w := by
  obtain ⟨y, S2, e1, e2, e3, h | h⟩ := h
  · obtain ⟨f1, f2, f3, f4⟩ := h
    exact ⟨y, S2, e1, e2, a.tr e3, Or.inl ⟨f1, f2, f3.trans b, f4⟩⟩
  · exact ⟨y, S2, e1, e2, a.tr e3, Or.inr h⟩
def wcp (S : gS) (q s pl fr : Nat) : Nat → gS
  | 0 => S
  | j + 1 => gsA (wcp S q s pl fr j) q (pl + j) (S.2.1 s (fr + j))
theorem wcp_at (S : gS) (q s pl fr x : Nat) : ∀ k, (wcp S q s pl fr k).2.1 q x = if pl ≤ x ∧ x < pl + k then S.2.1 s (fr + (x - pl)) else S.2.1 q x := by
  intro k
  induction k with
  | zero => rw [if_neg (by omega)]; rfl
  | succ k ih =>
    by_cases e : x = pl + k
    · subst e
      rw [if_pos (by omega), wcp, show pl + k - pl = k by omega]
      exact gsA_eq _ _ _ _
    · rw [wcp, gsA_nj _ _ _ _ (Or.inr e), ih]
      by_cases c : pl ≤ x ∧ x < pl + k
      · rw [if_pos c, if_pos (by omega)]
      · rw [if_neg c, if_neg (by omega)]
theorem wcp_ne (S : gS) (q s pl fr : Nat) {p : Nat} (h : p ≠ q) : ∀ k, (wcp S q s pl fr k).2.1 p = S.2.1 p := by
  intro k
  induction k with
  | zero => rfl
  | succ k ih => rw [wcp]; exact (up2_ne _ _ h).trans ih
theorem wcp_1 (S : gS) (q s pl fr : Nat) : ∀ k, (wcp S q s pl fr k).1 = S.1 ∧ (wcp S q s pl fr k).2.2 = S.2.2 := by
  intro k
  induction k with
  | zero => exact ⟨rfl, rfl⟩
  | succ k ih => exact ih
/-- a room is made -/
def wrm (S : gS) (J pl k : Nat) : gS := gsG (wz S (201 + 20 * J) pl k) (200 + 20 * J) 2 (.int (nI (pl + k)))
theorem wrm_k {J : Nat} {S S' : gS} {pl k : Nat} (a : wkp J S S') : wkp J S (wrm S' J pl k) := (a.m (wz_1 S' _ pl k).1 (fun q hq => wz_ne S' _ pl hq k) (wz_1 S' _ pl k).2).g (Or.inr (Or.inr (Or.inl ⟨rfl, rfl⟩)))
theorem wsb_k {J : Nat} {S S' : gS} {a n : Nat} {w : Int64} (h : wkp J S S') : wkp J S (hb_sb S' (201 + 20 * J) a w n) := h.m (hsb_1 S' _ a w n).1 (fun q hq => hsb_ne S' _ a w hq n) (hsb_1 S' _ a w n).2
theorem wcp_k {J : Nat} {S S' : gS} {s pl fr n : Nat} (h : wkp J S S') : wkp J S (wcp S' (201 + 20 * J) s pl fr n) := h.m (wcp_1 S' _ s pl fr n).1 (fun q hq => wcp_ne S' _ s pl fr hq n) (wcp_1 S' _ s pl fr n).2
/-- a handle is used -/
def wus (S : gS) (x : Nat) (a b : Int32) (e : Nat) (v : Value) : gS := gsG (gsG (gsG (gsG (gsG S x 0 (.int a)) x 1 (.int b)) x 3 (.ref e)) x 4 v) x 2 (.int 0)
theorem wus_k {J : Nat} {S S' : gS} {x : Nat} {a b : Int32} {e : Nat} {v : Value} (h : wkp J S S') (hg : gk x = 4) : wkp J S (wus S' x a b e v) := ((((h.g (Or.inr (Or.inr (Or.inr hg)))).g (Or.inr (Or.inr (Or.inr hg)))).g (Or.inr (Or.inr (Or.inr hg)))).g (Or.inr (Or.inr (Or.inr hg)))).g (Or.inr (Or.inr (Or.inr hg)))
