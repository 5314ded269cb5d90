/-! what a reading keeps: pure rows -/
theorem rd_m_pr {P : Nat → (Nat → Nat → Int32) → Prop} {f : Int32 → Int32 → Nat → (Nat → Nat → Int32) → rd_R} (hf : ∀ p inn n B q, P n B → f p inn n B = .inr q → P q.1 q.2) {sz su : Int32} : ∀ (r : Nat) (p inn : Int32) (n : Nat) (B : Nat → Nat → Int32) (q : Nat × (Nat → Nat → Int32)), P n B → rd_m f sz su r p inn n B = .inr q → P q.1 q.2 := by
  intro r
  induction r with
  | zero => intro p inn n B q h e; rw [rd_m] at e; cases e; exact h
  | succ r ih =>
    intro p inn n B q h e
    rw [rd_m] at e
    cases hx : f p inn n B with
    | inl z => rw [hx] at e; cases e
    | inr q1 => rw [hx] at e; exact ih _ _ q1.1 q1.2 q (hf p inn n B q1 h hx) e
theorem rd_s_pr {P : Nat → (Nat → Nat → Int32) → Prop} {g : ri_E → Nat → (Nat → Nat → Int32) → rd_R} {e : Nat → ri_E} : ∀ (r : Nat) (n : Nat) (B : Nat → Nat → Int32) (q : Nat × (Nat → Nat → Int32)), (∀ j, j < r → ∀ n B q, P n B → g (e j) n B = .inr q → P q.1 q.2) → P n B → rd_s g e r n B = .inr q → P q.1 q.2 := by
  intro r
  induction r with
  | zero => intro n B q _ h z; rw [rd_s] at z; cases z; exact h
  | succ r ih =>
    intro n B q hg h z
    rw [rd_s] at z
    cases hx : g (e r) n B with
    | inl y => rw [hx] at z; cases z
    | inr q1 => rw [hx] at z; exact ih q1.1 q1.2 q (fun j hj => hg j (by omega)) (hg r (by omega) n B q1 h hx) z
theorem ty_sc {B B' : Nat → Nat → Int32} {NT : Nat} {ct dp : Nat → Nat} {pt : Nat → Nat → Nat} {R : Nat → Nat → Prop} (hs : mo_sc B B') (hW : ty_wf B NT ct dp pt) (hD : ty_rd B NT ct) (hR : ty_ft B ct pt R) (h8 : mo_b8 B) : ty_wf B' NT ct dp pt ∧ ty_rd B' NT ct ∧ ty_ft B' ct pt R ∧ mo_b8 B' := by
  have e : ∀ f, f < 20 → B' f = B f := fun f hf => hs f (by omega) (by omega) (by omega) (by omega)
  refine ⟨hW.co (e 7 (by omega)) (e 8 (by omega)), ?_, ?_, ?_⟩
  · unfold ty_rd; rw [e 5 (by omega), e 2 (by omega), e 4 (by omega)]; exact hD
  · unfold ty_ft mo_al; rw [e 2 (by omega), e 3 (by omega), e 7 (by omega)]; exact hR
  · unfold mo_b8; rw [e 13 (by omega)]; exact h8
/-- what each item keeps, a value keeps -/
theorem rd_prR {B0 : Nat → Nat → Int32} {NT ii : Nat} {ct dp : Nat → Nat} {pt : Nat → Nat → Nat} {R : Nat → Nat → Prop} (hW : ty_wf B0 NT ct dp pt) (hD : ty_rd B0 NT ct) (hR : ty_ft B0 ct pt R) (h8 : mo_b8 B0) (hii : ii < 6) (hRN : ∀ t u, R t u → t < NT ∧ u < NT) {P : Nat → (Nat → Nat → Int32) → Prop} (hsc : ∀ n B, P n B → mo_sc B0 B) (st : ∀ (B : Nat → Nat → Int32) (tt uu : Nat) (p ab inn : Int32) (n : Nat) (q : (Nat → Nat → Int32) × Nat × (Nat → ri_E)), R tt uu → P n B → ri_1 B ct ii tt uu p ab inn n = .inr q → P (n + 1) q.1) {T4 : Nat → Int32} : ∀ (d tt uu : Nat) (p ab inn : Int32) (n : Nat) (B : Nat → Nat → Int32) (q : Nat × (Nat → Nat → Int32)), R tt uu → P n B → rd_i T4 ct ii d tt uu p ab inn n B = .inr q → P q.1 q.2 := by
  intro d
  induction d with
  | zero => intro tt uu p ab inn n B q _ h e; rw [rd_i] at e; cases e; exact h
  | succ d ih =>
    intro tt uu p ab inn n B q hr h e
    rw [rd_i] at e
    cases hx : ri_1 B ct ii tt uu p ab inn n with
    | inl z => rw [hx] at e; cases e
    | inr q1 =>
      rw [hx] at e
      dsimp only at e
      obtain ⟨w1, w2, w3, w4⟩ := ty_sc (hsc n B h) hW hD hR h8
      obtain ⟨-, -, -, he⟩ := ri_1e w1 w2 w3 w4 hii (hRN tt uu hr).1 (hRN tt uu hr).2 hr hx
      refine rd_s_pr q1.2.1 (n + 1) q1.1 q (fun j hj n9 B9 q9 h9 z9 => ?_) (st B tt uu p ab inn n q1 hr h hx) e
      obtain ⟨t', u', mn, e1, e2, -, -, ht', hu', -, hr'⟩ := he j hj
      have hNT := hW.1
      rw [e1, e2, nI_clamp (by omega), nI_clamp (by omega)] at z9
      exact rd_m_pr (P := P) (fun p inn n B q h z => ih t' u' p _ inn n B q hr' h z) _ _ _ _ _ _ h9 z9
/-- what an item that went well did to the tables -/
theorem ri_1c {B : Nat → Nat → Int32} {ct : Nat → Nat} {ii tt uu : Nat} {p ab inn : Int32} {nn : Nat} {q : (Nat → Nat → Int32) × Nat × (Nat → ri_E)} (h : ri_1 B ct ii tt uu p ab inn nn = .inr q) : nn ≠ 200 ∧ ((B 2 tt ≤ 10 ∧ (q.1 = ri_B1 B ii nn uu p ab inn ∨ q.1 = ri_B0 B nn uu p ab inn)) ∨ (¬ B 2 tt ≤ 10 ∧ (mo_rh (ri_B0 B nn uu p ab inn) ii tt p nn).1 = none ∧ q.1 = (mo_rh (ri_B0 B nn uu p ab inn) ii tt p nn).2)) := by
  unfold ri_1 at h
  by_cases c0 : nn = 200
  · rw [if_pos c0] at h; cases h
  rw [if_neg c0] at h
  refine ⟨c0, ?_⟩
  by_cases c1 : ¬ p - p / B 5 tt * B 5 tt = 0
  · rw [if_pos c1] at h; cases h
  rw [if_neg c1] at h
  by_cases k6 : B 2 tt = 6
  · rw [if_pos k6] at h
    refine Or.inl ⟨by rw [k6]; decide, ?_⟩
    split at h
    · cases h
    split at h
    · cases h
    · cases h; exact Or.inl rfl
  rw [if_neg k6] at h
  by_cases k8 : B 2 tt = 8
  · rw [if_pos k8] at h
    refine Or.inl ⟨by rw [k8]; decide, ?_⟩
    split at h
    · cases h
    split at h
    · cases h; exact Or.inl rfl
    · cases h; exact Or.inl rfl
  rw [if_neg k8] at h
  by_cases k9 : B 2 tt = 9
  · rw [if_pos k9] at h
    cases h
    exact Or.inl ⟨by rw [k9]; decide, Or.inr rfl⟩
  rw [if_neg k9] at h
  by_cases k10 : B 2 tt = 10
  · rw [if_pos k10] at h
    refine Or.inl ⟨by rw [k10]; decide, ?_⟩
    split at h
    · cases h
    split at h
    · cases h
    · cases h; exact Or.inr rfl
  rw [if_neg k10] at h
  by_cases c5 : ¬ B 2 tt ≤ 10
  · rw [if_pos c5] at h
    refine Or.inr ⟨c5, ?_⟩
    split at h
    · cases h
    · rename_i hn; cases h; exact ⟨hn, rfl⟩
  · rw [if_neg c5] at h
    refine Or.inl ⟨Decidable.of_not_not c5, ?_⟩
    split at h
    · cases h
    · cases h; exact Or.inr rfl
/-- a handle that was read well -/
theorem rh_c {A : Nat → Nat → Int32} {i tt n : Nat} {p : Int32} (hi : i < 6) (h8 : mo_b8 A) (hx : (mo_rh A i tt p n).1 = none) : ∃ x, 17 * i < x ∧ x ≤ 17 * i + 16 ∧ ¬ A 16 x = 0 ∧ A 20 x = 0 ∧ ((A 2 tt = 12 ∧ (mo_rh A i tt p n).2 = va_up (rh_48 A n x) 21 (upd (A 21) x (A 21 x + 1))) ∨ (¬ A 2 tt = 12 ∧ ¬ A 18 x = 0 ∧ lnB A x ≤ 0 ∧ (mo_rh A i tt p n).2 = va_up (rh_48 A n x) 20 (upd (A 20) x 1))) := by
  by_cases gp : p < 0 ∨ 255 < p
  · rw [mo_rh, if_pos gp] at hx; cases hx
  obtain ⟨g1, g2⟩ := bb_p h8 hi gp
  rw [rh_eq gp g2 g1] at hx ⊢
  by_cases c1 : ¬ (1 ≤ bb A i p ∧ bb A i p ≤ 16 ∧ ¬ A 16 (17 * i + bb A i p) = 0 ∧ A 20 (17 * i + bb A i p) = 0)
  · rw [if_pos c1] at hx; cases hx
  rw [if_neg c1] at hx ⊢
  obtain ⟨d1, d2, d3, d4⟩ := Decidable.of_not_not c1
  refine ⟨17 * i + bb A i p, by omega, by omega, d3, d4, ?_⟩
  by_cases c2 : ¬ A 23 (A 17 (17 * i + bb A i p)).toNatClampNeg = A 3 tt
  · rw [if_pos c2] at hx; cases hx
  rw [if_neg c2] at hx ⊢
  by_cases c3 : A 2 tt = 12
  · rw [if_pos c3]; exact Or.inl ⟨c3, rfl⟩
  · rw [if_neg c3] at hx ⊢
    by_cases c4 : A 18 (17 * i + bb A i p) = 0
    · rw [if_pos c4] at hx; cases hx
    rw [if_neg c4] at hx ⊢
    by_cases c5 : ¬ lnB A (17 * i + bb A i p) ≤ 0
    · rw [if_pos c5] at hx; cases hx
    rw [if_neg c5]
    exact Or.inr ⟨c3, c4, Decidable.of_not_not c5, rfl⟩
def kdI (B : Nat → Nat → Int32) (k : Nat) : Int32 := B 2 (B 44 k).toNatClampNeg
/-- what is known of taken and lent handles behind n items -/
def RT (B0 : Nat → Nat → Int32) (i n : Nat) (B : Nat → Nat → Int32) : Prop := mo_sc B0 B ∧ (∀ x, x < 102 → ¬ B 20 x = 0 → ¬ B 16 x = 0 ∧ ¬ B 18 x = 0 ∧ lnB B x ≤ 0 ∧ 17 * i < x ∧ x ≤ 17 * i + 16) ∧ (∀ k, k < n → ¬ kdI B k ≤ 10 → ∃ x, B 48 k = nI x ∧ 17 * i < x ∧ x ≤ 17 * i + 16 ∧ ¬ B 16 x = 0 ∧ ((kdI B k = 11 ∧ ¬ B 20 x = 0) ∨ kdI B k = 12)) ∧ (∀ k k', k < k' → k' < n → kdI B k = 11 → kdI B k' = 11 → ¬ B 48 k = B 48 k')
theorem RT.st {B0 B : Nat → Nat → Int32} {NT i : Nat} {ct dp : Nat → Nat} {pt : Nat → Nat → Nat} {R : Nat → Nat → Prop} (hW : ty_wf B0 NT ct dp pt) (hR : ty_ft B0 ct pt R) (h8 : mo_b8 B0) (hi : i < 6) (hRN : ∀ t u, R t u → t < NT ∧ u < NT) (hK : ∀ t, t < NT → ¬ B0 2 t ≤ 10 → B0 2 t = 11 ∨ B0 2 t = 12) {tt uu : Nat} {p ab inn : Int32} {n : Nat} {q : (Nat → Nat → Int32) × Nat × (Nat → ri_E)} (hr : R tt uu) (h : RT B0 i n B) (hx : ri_1 B ct i tt uu p ab inn n = .inr q) : RT B0 i (n + 1) q.1 := by
  obtain ⟨h1, h2, h3, h4⟩ := h
  have hNT := hW.1
  obtain ⟨ht, hu⟩ := hRN tt uu hr
  have e2 : B 2 = B0 2 := h1 2 (by decide) (by decide) (by decide) (by decide)
  have hal : B 2 tt = B 2 uu := by rw [e2]; exact (hR tt uu hr).1.1
  -- tables that differ at item n alone
  have key : ∀ C : Nat → Nat → Int32, mo_sc B C → (∀ k, k < n → C 44 k = B 44 k ∧ C 48 k = B 48 k) → C 44 n = nI uu → (∀ k, k < n → kdI C k = kdI B k) ∧ kdI C n = B 2 uu := fun C c1 c2 c3 => by
    have f2 : C 2 = B 2 := c1 2 (by decide) (by decide) (by decide) (by decide)
    exact ⟨fun k hk => by rw [kdI, kdI, f2, (c2 k hk).1], by rw [kdI, f2, c3, nI_clamp (by omega)]⟩
  have plain : ∀ C : Nat → Nat → Int32, mo_sc B C → C 20 = B 20 → C 21 = B 21 → kp n B C → C 44 n = nI uu → B 2 uu ≤ 10 → RT B0 i (n + 1) C := fun C c1 c20 c21 ck c44 hk10 => by
    have f : ∀ f, f = 16 ∨ f = 17 ∨ f = 18 ∨ f = 19 → C f = B f := fun f hf => c1 f (by omega) (by omega) (by omega) (by omega)
    obtain ⟨y1, y2⟩ := key C c1 (fun k hk => ⟨ck 44 (by omega) (by omega) k hk, ck 48 (by omega) (by omega) k hk⟩) c44
    refine ⟨h1.tr c1, fun x hx1 hx9 => ?_, fun k hk hk9 => ?_, fun k k' a b c d => ?_⟩
    · rw [c20] at hx9
      rw [f 16 (by omega), f 18 (by omega), lnB, mo_ln_c (f 16 (by omega)) (f 18 (by omega)) (f 19 (by omega)), c21]
      exact h2 x hx1 hx9
    · by_cases e : k = n
      · subst e; rw [y2] at hk9; exact absurd hk10 hk9
      · rw [y1 k (by omega)] at hk9 ⊢
        rw [ck 48 (by omega) (by omega) k (by omega), f 16 (by omega), c20]
        exact h3 k (by omega) hk9
    · by_cases e : k' = n
      · subst e; rw [y2] at d; exact absurd hk10 (by rw [d]; decide)
      · rw [y1 k (by omega)] at c
        rw [y1 k' (by omega)] at d
        rw [ck 48 (by omega) (by omega) k (by omega), ck 48 (by omega) (by omega) k' (by omega)]
        exact h4 k k' a (by omega) c d
  obtain ⟨-, ⟨k10, e | e⟩ | ⟨k10, hn, e⟩⟩ := ri_1c hx
  · rw [e]; exact plain _ rB1_sc (rB1_k (by omega)) (rB1_k (by omega)) rB1_kp rB1_44 (by rw [← hal]; exact k10)
  · rw [e]; exact plain _ (ri_B0_sc _ _ _ _ _ _) (rB0_k (by omega)) (rB0_k (by omega)) rB0_kp rB0_44 (by rw [← hal]; exact k10)
  · obtain ⟨A, eA⟩ : ∃ A, A = ri_B0 B n uu p ab inn := ⟨_, rfl⟩
    have ak : ∀ f, f < 44 ∨ 47 < f → A f = B f := fun f hf => by rw [eA]; exact rB0_k hf
    have a44 : A 44 n = nI uu := by rw [eA]; exact rB0_44
    have akp : kp n B A := by rw [eA]; exact rB0_kp
    have asc : mo_sc B A := by rw [eA]; exact ri_B0_sc _ _ _ _ _ _
    rw [← eA] at hn e
    have hA8 : mo_b8 A := fun j hj => by rw [ak 13 (by omega), h1 13 (by decide) (by decide) (by decide) (by decide)]; exact h8 j hj
    obtain ⟨x, x1, x2, x3, x4, hc⟩ := rh_c hi hA8 hn
    rw [ak 16 (by omega)] at x3
    rw [ak 20 (by omega)] at x4
    have hln : ∀ C : Nat → Nat → Int32, (∀ f, f = 16 ∨ f = 18 ∨ f = 19 → C f = A f) → ∀ y, C 21 y = B 21 y → lnB C y = lnB B y := fun C hC y hy => by
      rw [lnB, lnB, mo_ln_c (hC 16 (by omega)) (hC 18 (by omega)) (hC 19 (by omega)), mo_ln_c (ak 16 (by omega)) (ak 18 (by omega)) (ak 19 (by omega)), hy]
    rcases hc with ⟨k12, e9⟩ | ⟨k12, o18, oln, e9⟩
    · rw [e, e9]
      rw [ak 2 (by omega), hal] at k12
      have g : ∀ f, f ≠ 48 → f ≠ 21 → va_up (rh_48 A n x) 21 (upd (A 21) x (A 21 x + 1)) f = A f := fun f f1 f2 => rh_ne2 f1 f2
      have g48 : va_up (rh_48 A n x) 21 (upd (A 21) x (A 21 x + 1)) 48 = upd (A 48) n (nI x) := (va_up_ne _ _ (by decide)).trans (va_up_self _ _ _)
      have gsc : mo_sc B (va_up (rh_48 A n x) 21 (upd (A 21) x (A 21 x + 1))) := (asc.tr (mo_sc.up (by omega))).tr (mo_sc.up (by omega))
      have g48k : ∀ k, k < n → va_up (rh_48 A n x) 21 (upd (A 21) x (A 21 x + 1)) 48 k = B 48 k := fun k hk => by rw [g48, upd_ne (by omega)]; exact akp 48 (by omega) (by omega) k hk
      obtain ⟨y1, y2⟩ := key _ gsc (fun k hk => ⟨by rw [g 44 (by decide) (by decide)]; exact akp 44 (by omega) (by omega) k hk, g48k k hk⟩) (by rw [g 44 (by decide) (by decide)]; exact a44)
      refine ⟨h1.tr gsc, fun y hy1 hy => ?_, fun k hk hk9 => ?_, fun k k' a b c d => ?_⟩
      · rw [g 20 (by decide) (by decide), ak 20 (by omega)] at hy
        obtain ⟨z1, z2, z3, z4, z5⟩ := h2 y hy1 hy
        refine ⟨by rw [g 16 (by decide) (by decide), ak 16 (by omega)]; exact z1, by rw [g 18 (by decide) (by decide), ak 18 (by omega)]; exact z2, ?_, z4, z5⟩
        rw [hln _ (fun f hf => g f (by omega) (by omega)) y (by rw [va_up_self, upd_ne (fun z => hy (by rw [z]; exact x4)), ak 21 (by omega)])]
        exact z3
      · rw [g 16 (by decide) (by decide), g 20 (by decide) (by decide), ak 16 (by omega), ak 20 (by omega)]
        by_cases e5 : k = n
        · subst e5; rw [g48, upd_eq]; exact ⟨x, rfl, x1, x2, x3, Or.inr (y2.trans k12)⟩
        · rw [y1 k (by omega)] at hk9 ⊢
          rw [g48k k (by omega)]
          exact h3 k (by omega) hk9
      · by_cases e5 : k' = n
        · subst e5; rw [y2, k12] at d; exact absurd d (by decide)
        · rw [y1 k (by omega)] at c
          rw [y1 k' (by omega)] at d
          rw [g48k k (by omega), g48k k' (by omega)]
          exact h4 k k' a (by omega) c d
    · rw [e, e9]
      rw [ak 18 (by omega)] at o18
      have o11 : B 2 uu = 11 := by
        rw [e2]
        refine (hK uu hu ?_).resolve_right ?_
        · rw [← e2, ← hal]; exact k10
        · rw [← e2, ← hal, ← ak 2 (by omega)]; exact k12
      have g : ∀ f, f ≠ 48 → f ≠ 20 → va_up (rh_48 A n x) 20 (upd (A 20) x 1) f = A f := fun f f1 f2 => rh_ne2 f1 f2
      have g48 : va_up (rh_48 A n x) 20 (upd (A 20) x 1) 48 = upd (A 48) n (nI x) := (va_up_ne _ _ (by decide)).trans (va_up_self _ _ _)
      have g20 : va_up (rh_48 A n x) 20 (upd (A 20) x 1) 20 = upd (B 20) x 1 := by rw [va_up_self, ak 20 (by omega)]
      have gsc : mo_sc B (va_up (rh_48 A n x) 20 (upd (A 20) x 1)) := (asc.tr (mo_sc.up (by omega))).tr (mo_sc.up (by omega))
      have g48k : ∀ k, k < n → va_up (rh_48 A n x) 20 (upd (A 20) x 1) 48 k = B 48 k := fun k hk => by rw [g48, upd_ne (by omega)]; exact akp 48 (by omega) (by omega) k hk
      have g20m : ∀ y, ¬ B 20 y = 0 → ¬ upd (B 20) x 1 y = 0 := fun y hy => by
        by_cases e6 : y = x
        · rw [e6, upd_eq]; decide
        · rw [upd_ne e6]; exact hy
      obtain ⟨y1, y2⟩ := key _ gsc (fun k hk => ⟨by rw [g 44 (by decide) (by decide)]; exact akp 44 (by omega) (by omega) k hk, g48k k hk⟩) (by rw [g 44 (by decide) (by decide)]; exact a44)
      have gl : ∀ y, lnB (va_up (rh_48 A n x) 20 (upd (A 20) x 1)) y = lnB B y := fun y => hln _ (fun f hf => g f (by omega) (by omega)) y (by rw [g 21 (by decide) (by decide), ak 21 (by omega)])
      refine ⟨h1.tr gsc, fun y hy1 hy => ?_, fun k hk hk9 => ?_, fun k k' a b c d => ?_⟩
      · rw [g20] at hy
        rw [g 16 (by decide) (by decide), ak 16 (by omega), g 18 (by decide) (by decide), ak 18 (by omega), gl]
        by_cases e6 : y = x
        · subst e6
          refine ⟨x3, o18, ?_, x1, x2⟩
          rw [lnB, mo_ln_c (ak 16 (by omega)) (ak 18 (by omega)) (ak 19 (by omega)), ak 21 (by omega)] at oln
          exact oln
        · rw [upd_ne e6] at hy; exact h2 y hy1 hy
      · rw [g 16 (by decide) (by decide), g20, ak 16 (by omega)]
        by_cases e5 : k = n
        · subst e5; rw [g48, upd_eq]; exact ⟨x, rfl, x1, x2, x3, Or.inl ⟨y2.trans o11, by rw [upd_eq]; decide⟩⟩
        · rw [y1 k (by omega)] at hk9 ⊢
          rw [g48k k (by omega)]
          obtain ⟨z, z1, z2, z3, z4, z5⟩ := h3 k (by omega) hk9
          exact ⟨z, z1, z2, z3, z4, z5.imp_left (fun w => ⟨w.1, g20m z w.2⟩)⟩
      · rw [y1 k (by omega)] at c
        by_cases e5 : k' = n
        · subst e5
          obtain ⟨z, z1, z2, z3, z4, z5⟩ := h3 k a (by rw [c]; decide)
          rcases z5 with z5 | z5
          · rw [g48k k a, g48, upd_eq, z1]
            intro w
            have := n_eq z x w
            subst this
            exact z5.2 x4
          · rw [c] at z5; exact absurd z5 (by decide)
        · rw [y1 k' (by omega)] at d
          rw [g48k k (by omega), g48k k' (by omega)]
          exact h4 k k' a (by omega) c d
