/-! handles behind a passing and behind a trap -/
theorem ln_e {B B' : Nat → Nat → Int32} {x p : Int32} : ∀ n, (∀ y, y < n → ((¬ B' 16 y = 0 ∧ B' 18 y = 0 ∧ B' 19 y = x) ↔ (¬ B 16 y = 0 ∧ B 18 y = 0 ∧ B 19 y = x))) → mo_ln B' x p n = mo_ln B x p n := by
  intro n
  induction n with
  | zero => intro _; rfl
  | succ n ih =>
    intro h
    rw [mo_ln, mo_ln, ih (fun y hy => h y (by omega))]
    by_cases c : ¬ B 16 n = 0 ∧ B 18 n = 0 ∧ B 19 n = x
    · rw [if_pos c, if_pos ((h n (by omega)).mpr c)]
    · rw [if_neg c, if_neg (fun z => c ((h n (by omega)).mp z))]
theorem ln_no {B : Nat → Nat → Int32} {x p : Int32} : ∀ n, (∀ y, y < n → ¬ B 16 y = 0 → ¬ B 18 y = 0) → mo_ln B x p n = p := by
  intro n
  induction n with
  | zero => intro _; rfl
  | succ n ih =>
    intro h
    rw [mo_ln, if_neg (fun z => h n (by omega) z.1 z.2.1), ih (fun y hy => h y (by omega))]
theorem pe_16 {z : Prop} [Decidable z] {B : Nat → Nat → Int32} {x : Nat} (hx : x < 102) : pe_B z B 102 16 x = if ¬ B 16 x = 0 ∧ (B 20 x = 0 ∨ ¬ z) then 1 else 0 := by
  rw [pe_B, va_up_ne _ _ (by decide), va_up_ne _ _ (by decide), va_up_self, pe_u, if_pos hx]
theorem pe_20 {z : Prop} [Decidable z] {B : Nat → Nat → Int32} {x : Nat} (hx : x < 102) : pe_B z B 102 20 x = 0 := by
  rw [pe_B, va_up_ne _ _ (by decide), va_up_self, pe_0, if_pos hx]
theorem pe_21 {z : Prop} [Decidable z] {B : Nat → Nat → Int32} {x : Nat} (hx : x < 102) : pe_B z B 102 21 x = 0 := by
  rw [pe_B, va_up_self, pe_0, if_pos hx]
theorem pe_n0 {z : Prop} [Decidable z] {B : Nat → Nat → Int32} {x : Nat} (hx : x < 102) : ¬ pe_B z B 102 16 x = 0 ↔ ¬ B 16 x = 0 ∧ (B 20 x = 0 ∨ ¬ z) := by
  rw [pe_16 hx]
  by_cases c : ¬ B 16 x = 0 ∧ (B 20 x = 0 ∨ ¬ z)
  · rw [if_pos c]; exact ⟨fun _ => c, fun _ => by decide⟩
  · rw [if_neg c]; exact ⟨fun w => absurd rfl w, fun w => absurd w c⟩
/-- behind a passing that went well -/
theorem HA.pe {am hd : Nat → Nat} {S1 S9 : gS} {B0 Bs B : Nat → Nat → Int32} {i J n ni : Nat} {z : Prop} [Decidable z] (hz : z) (hn : ni ≤ 6) (hin : i < ni) (hJn : J < ni) (hiJ : i ≠ J) (hM : WM am hd S1 Bs B i J ni) (hR : RT B0 i n Bs) (hW : WP Bs i J n n B) (hS9 : S9 = hh_ch (hh_ch S1 hd (fun h => hof B (frB Bs B) (17 * i + h + 1)) i 3 0 16) hd (fun h => hof B (frB Bs B) (17 * J + h + 1)) J 4 1 16) : HA am hd S9 (pe_B z B 102) fr0 (lnB (pe_B z B 102)) ni := by
  obtain ⟨p1, p2, p3, p4, p5⟩ := hW
  obtain ⟨r1, r2, r3, r4⟩ := hR
  have e20 : B 20 = Bs 20 := p1 20 (by decide) (by decide) (by decide) (by decide) (by decide) (by decide) (by decide) (by decide) (by decide)
  have un : ∀ f, f = 17 ∨ f = 18 ∨ f = 19 ∨ f = 23 → pe_B z B 102 f = B f := fun f hf => pe_un (by omega) (by omega) (by omega)
  have tk : ∀ x, x < 102 → ¬ B 20 x = 0 → ¬ B 18 x = 0 := fun x hx1 hx => by
    rw [e20] at hx
    obtain ⟨a, b, -⟩ := r2 x hx1 hx
    rw [(p2 x a).2.2.1]; exact b
  have nj : ∀ a h j, h < 16 → j ≠ 3 → S9.1 (203 + 20 * a + h) j = S1.1 (203 + 20 * a + h) j := fun a h j _ hj => by
    rw [hS9, hh_ch_1 _ _ _ _ _ _ 16 (Or.inl hj), hh_ch_1 _ _ _ _ _ _ 16 (Or.inl hj)]
  intro a h ha hh
  have hx : 17 * a + h + 1 < 102 := by omega
  obtain ⟨c1, c2, c3⟩ := hM.2.2.1 a h ha hh
  refine ⟨?_, ?_, fun q => ?_⟩
  · have S9at : S9.1 (203 + 20 * a + h) 3 = .ref (hd (if a = i then (if hof B (frB Bs B) (17 * a + h + 1) = 3 then 0 else hof B (frB Bs B) (17 * a + h + 1)) else if a = J then (if hof B (frB Bs B) (17 * a + h + 1) = 4 then 1 else hof B (frB Bs B) (17 * a + h + 1)) else hof B (frB Bs B) (17 * a + h + 1))) := by
      by_cases e1 : a = i
      · subst e1
        rw [if_pos rfl, hS9, hh_ch_1 _ _ _ _ _ _ 16 (Or.inr (fun h' hh' => by omega))]
        exact hh_ch_at S1 hd _ a 3 0 c1 16 hh
      · rw [if_neg e1]
        by_cases e2 : a = J
        · subst e2
          rw [if_pos rfl, hS9]
          exact hh_ch_at _ hd _ a 4 1 (by rw [hh_ch_1 _ _ _ _ _ _ 16 (Or.inr (fun h' hh' => by omega))]; exact c1) 16 hh
        · rw [if_neg e2, hS9, hh_ch_1 _ _ _ _ _ _ 16 (Or.inr (fun h' hh' => by omega)), hh_ch_1 _ _ _ _ _ _ 16 (Or.inr (fun h' hh' => by omega))]
          exact c1
    rw [S9at]
    congr 2
    obtain ⟨x, ex⟩ : ∃ x, x = 17 * a + h + 1 := ⟨_, rfl⟩
    rw [← ex] at hx ⊢
    have m16 := pe_n0 (z := z) (B := B) hx
    have m20 := pe_20 (z := z) (B := B) hx
    have m18 := un 18 (by omega)
    by_cases q16 : B 16 x = 0
    · have v : hof B (frB Bs B) x = 0 := by rw [hof, if_pos q16]
      have v' : hof (pe_B z B 102) fr0 x = 0 := by rw [hof, if_pos (Decidable.byContradiction (fun w => (m16.mp w).1 q16))]
      rw [v, v']
      split
      · rfl
      split <;> rfl
    by_cases q20 : B 20 x = 0
    · have n16 : ¬ pe_B z B 102 16 x = 0 := m16.mpr ⟨q16, Or.inl q20⟩
      by_cases q18 : B 18 x = 0
      · have v : hof B (frB Bs B) x = 2 := by rw [hof, if_neg q16, if_neg (fun w => w q20), if_pos q18]
        have v' : hof (pe_B z B 102) fr0 x = 2 := by rw [hof, if_neg n16, if_neg (fun w => w m20), m18, if_pos q18]
        rw [v, v']
        split
        · rfl
        split <;> rfl
      · have v' : hof (pe_B z B 102) fr0 x = 1 := by rw [hof, if_neg n16, if_neg (fun w => w m20), m18, if_neg q18]; rfl
        rw [v']
        by_cases qf : frB Bs B x = true
        · have v : hof B (frB Bs B) x = 4 := by rw [hof, if_neg q16, if_neg (fun w => w q20), if_neg q18, if_pos qf]
          have hs : Bs 16 x = 0 := by
            unfold frB at qf
            rw [Bool.and_eq_true] at qf
            exact of_decide_eq_true qf.2
          obtain ⟨z1, z2, -⟩ := p3 x q16 hs
          have eJ : a = J := by omega
          rw [v, if_neg (by omega), if_pos eJ, if_pos rfl]
        · have v : hof B (frB Bs B) x = 1 := by rw [hof, if_neg q16, if_neg (fun w => w q20), if_neg q18, if_neg qf]
          rw [v]
          split
          · rfl
          split <;> rfl
    · have v : hof B (frB Bs B) x = 3 := by rw [hof, if_neg q16, if_pos q20]
      have v' : hof (pe_B z B 102) fr0 x = 0 := by rw [hof, if_pos (Decidable.byContradiction (fun w => (m16.mp w).2.elim q20 (fun y => y hz)))]
      have q20' := q20
      rw [e20] at q20'
      obtain ⟨-, -, -, z1, z2⟩ := r2 x hx q20'
      rw [v, v', if_pos (by omega), if_pos rfl]
  · rw [nj a h 2 hh (by decide), c2, show lnB (pe_B z B 102) (17 * a + h + 1) = mo_ln (pe_B z B 102) (nI (17 * a + h + 1)) (pe_B z B 102 21 (17 * a + h + 1)) 102 from rfl, pe_21 hx]
    congr 1
    have e1 : mo_ln (pe_B z B 102) (nI (17 * a + h + 1)) 0 102 = mo_ln B (nI (17 * a + h + 1)) 0 102 := by
      refine ln_e 102 (fun y hy => ?_)
      rw [un 18 (by omega), un 19 (by omega), pe_n0 hy]
      constructor
      · rintro ⟨⟨a1, -⟩, a2⟩; exact ⟨a1, a2⟩
      · rintro ⟨a1, a2, a3⟩
        exact ⟨⟨a1, Or.inl (Decidable.byContradiction (fun w => tk y hy w a2))⟩, a2, a3⟩
    rw [e1]
    have := p5 (17 * a + h + 1) hx
    rw [Nat.sub_self] at this
    exact this.symm
  · obtain ⟨q1, q2⟩ := (pe_n0 hx).mp q
    rw [nj a h 0 hh (by decide), nj a h 1 hh (by decide), nj a h 4 hh (by decide), un 17 (by omega), un 18 (by omega), un 19 (by omega), un 23 (by omega), pe_20 hx]
    obtain ⟨d1, d2, d3⟩ := c3 q1
    refine ⟨d1, d2, fun w => ?_⟩
    obtain ⟨i', h', x1, x2, x3, x4, -⟩ := d3 w
    exact ⟨i', h', x1, x2, x3, x4, rfl⟩
/-- behind a trap -/
theorem HA.trp {am hd : Nat → Nat} {S1 S9 : gS} {B1 B2 : Nat → Nat → Int32} {fr : Nat → Bool} {ln : Nat → Int32} {P ni Lv : Nat} {s b30 : Nat → Int32} (hn : ni ≤ 6) (hE : EAQ hd S1 S9 P ni Lv s b30 (fun a h => hof B1 fr (17 * a + h + 1))) (hA : HA am hd S1 B1 fr ln ni) (h16 : ∀ x, x < 102 → (¬ B2 16 x = 0 ↔ (¬ B1 16 x = 0 ∧ ¬ B1 18 x = 0 ∧ fr x = false))) (e : ∀ f, f = 17 ∨ f = 18 ∨ f = 23 → ∀ x, (f = 23 ∨ ¬ B2 16 x = 0) → B2 f x = B1 f x) (h20 : ∀ x, x < 102 → B2 20 x = 0 ∧ B2 21 x = 0) (hfr : ∀ x, ¬ B1 20 x = 0 → fr x = false) : HA am hd S9 B2 fr0 (lnB B2) ni := by
  obtain ⟨ek, -, -, hE⟩ := hE
  intro a h ha hh
  have hx : 17 * a + h + 1 < 102 := by omega
  obtain ⟨c1, c2, c3⟩ := hA a h ha hh
  obtain ⟨-, -, hEh⟩ := hE a ha
  obtain ⟨d1, d2⟩ := hEh h hh
  have kg : gk (203 + 20 * a + h) = 4 := (gk_in a (by omega)).2.2.2 h hh
  have e0 : ∀ j, j ≠ 2 → j ≠ 3 → S9.1 (203 + 20 * a + h) j = S1.1 (203 + 20 * a + h) j := fun j j2 j3 => ek.1 _ j (by omega) (fun w => by rw [kg] at w; exact absurd w.1 (by decide)) (by omega)
  refine ⟨?_, ?_, fun q => ?_⟩
  · rw [d1]
    congr 2
    have m16 := h16 (17 * a + h + 1) hx
    by_cases q : B2 16 (17 * a + h + 1) = 0
    · rw [show hof B2 fr0 (17 * a + h + 1) = 0 by rw [hof, if_pos q]]
      show h_un (hof B1 fr (17 * a + h + 1)) = 0
      by_cases q16 : B1 16 (17 * a + h + 1) = 0
      · rw [hof, if_pos q16]; rfl
      · by_cases q18 : B1 18 (17 * a + h + 1) = 0
        · obtain ⟨i', h', -, -, -, -, z20⟩ := (c3 q16).2.2 q18
          rw [hof, if_neg q16, if_neg (fun w => w z20), if_pos q18]; rfl
        · by_cases qf : fr (17 * a + h + 1) = true
          · rw [hof, if_neg q16, if_neg (fun w => by rw [hfr _ w] at qf; cases qf), if_neg q18, if_pos qf]; rfl
          · exact absurd q (m16.mpr ⟨q16, q18, by cases w : fr (17 * a + h + 1) with | true => exact absurd w qf | false => rfl⟩)
    · obtain ⟨g1, g2, g3⟩ := m16.mp q
      rw [show hof B2 fr0 (17 * a + h + 1) = 1 by rw [hof, if_neg q, if_neg (fun w => w (h20 _ hx).1), e 18 (by omega) _ (Or.inr q), if_neg g2]; rfl]
      show h_un (hof B1 fr (17 * a + h + 1)) = 1
      by_cases q20 : B1 20 (17 * a + h + 1) = 0
      · rw [hof, if_neg g1, if_neg (fun w => w q20), if_neg g2, if_neg (by rw [g3]; decide)]; rfl
      · rw [hof, if_neg g1, if_pos q20]; rfl
  · rw [d2, lnB, (h20 _ hx).2, ln_no 102 (fun y hy w => by rw [e 18 (by omega) y (Or.inr w)]; exact ((h16 y hy).mp w).2.1)]
  · obtain ⟨g1, g2, g3⟩ := (h16 _ hx).mp q
    obtain ⟨z0, z1, -⟩ := c3 g1
    rw [e0 0 (by decide) (by decide), e0 1 (by decide) (by decide), e 17 (by omega) _ (Or.inr q), e 23 (by omega) _ (Or.inl rfl)]
    exact ⟨z0, z1, fun w => absurd w (by rw [e 18 (by omega) _ (Or.inr q)]; exact g2)⟩
theorem tB_16 {B : Nat → Nat → Int32} {Fr Lv z x : Nat} (hx : x < 102) : ¬ mo_tB B Fr Lv z 16 x = 0 ↔ ¬ B 16 x = 0 ∧ ¬ B 18 x = 0 ∧ ¬ ∃ j, j < Fr ∧ (B 53 j).toNatClampNeg = x := by
  have e : mo_tB B Fr Lv z 16 = mo_t2 (mo_t1 (B 16) (B 53) Fr) (B 18) 102 := by
    rw [mo_tB, va_up_ne _ _ (by decide), va_up_ne _ _ (by decide), va_up_ne _ _ (by decide), va_up_self]
  rw [e, t2_at, if_pos hx]
  obtain ⟨t1, t2⟩ := t1_at (B 16) (B 53) x Fr
  by_cases c : ∃ j, j < Fr ∧ (B 53 j).toNatClampNeg = x
  · rw [t1 c, if_neg (fun w => w.1 rfl)]
    exact ⟨fun w => absurd rfl w, fun w => absurd c w.2.2⟩
  · rw [t2 c]
    by_cases d : ¬ B 16 x = 0 ∧ ¬ B 18 x = 0
    · rw [if_pos d]; exact ⟨fun _ => ⟨d.1, d.2, c⟩, fun _ => by decide⟩
    · rw [if_neg d]; exact ⟨fun w => absurd rfl w, fun w => absurd ⟨w.1, w.2.1⟩ d⟩
theorem tB_ne {B : Nat → Nat → Int32} {Fr Lv z f : Nat} (h1 : f ≠ 14) (h2 : f ≠ 15) (h3 : f ≠ 16) : mo_tB B Fr Lv z f = B f := by
  rw [mo_tB, va_up_ne _ _ h2, va_up_ne _ _ h1, va_up_ne _ _ h2, va_up_ne _ _ h3]
/-! tables that agree but for what waits -/
theorem mo_ag.wt {B B' : Nat → Nat → Int32} (a : mo_ag B B') (it to : Nat) : mo_ag (wi_t B it to) (wi_t B' it to) := a.up (by rw [a 50 (by omega)])
theorem mo_ag.li {B B' : Nat → Nat → Int32} (a : mo_ag B B') {F : Nat → Int32} {ii J it to hp k al mn fr : Nat} {tx : Prop} {dx : Decidable tx} : (wi_l F B' ii J it to hp k al mn fr tx).1 = (wi_l F B ii J it to hp k al mn fr tx).1 ∧ mo_ag (wi_l F B ii J it to hp k al mn fr tx).2 (wi_l F B' ii J it to hp k al mn fr tx).2 := by
  unfold wi_l wi_f
  rw [a 13 (by omega), a 14 (by omega), a 51 (by omega)]
  split
  · exact ⟨rfl, (a.wt it to).up rfl⟩
  · exact ⟨rfl, ((((a.wt it to).up rfl).up rfl).up rfl).up rfl⟩
theorem mo_ag.wh {B B' : Nat → Nat → Int32} (a : mo_ag B B') {F : Nat → Int32} {J it : Nat} : (mo_wh F B' J it).1 = (mo_wh F B J it).1 ∧ mo_ag (mo_wh F B J it).2 (mo_wh F B' J it).2 := by
  unfold mo_wh
  rw [a 16 (by omega), a 45 (by omega), a 2 (by omega), a 44 (by omega), a 17 (by omega), a 48 (by omega), a 18 (by omega), a 19 (by omega), a 53 (by omega), a 13 (by omega), a 50 (by omega)]
  split
  · exact ⟨rfl, a⟩
  · exact ⟨rfl, (((((a.up rfl).up rfl).up rfl).up rfl).up rfl).up rfl⟩
theorem mo_ag.wi {B B' : Nat → Nat → Int32} (a : mo_ag B B') {F : Nat → Int32} {ii J it uu to : Nat} : (wi_1 F B' ii J it uu to).1 = (wi_1 F B ii J it uu to).1 ∧ mo_ag (wi_1 F B ii J it uu to).2 (wi_1 F B' ii J it uu to).2 := by
  unfold wi_1
  rw [a 2 (by omega), a 14 (by omega), a 49 (by omega), a 48 (by omega), a 4 (by omega), a 8 (by omega), a 5 (by omega), a 13 (by omega), a 45 (by omega)]
  split
  · exact a.li
  split
  · exact a.li
  split
  · exact (a.wt it to).wh
  split
  · exact ⟨rfl, a.wt it to⟩
  · exact ⟨rfl, (a.wt it to).up rfl⟩
theorem wl_ag {ii J : Nat} : ∀ (m k : Nat) (F : Nat → Int32) (B B' : Nat → Nat → Int32), mo_ag B B' → (wl ii J m k F B').1 = (wl ii J m k F B).1 ∧ mo_ag (wl ii J m k F B).2 (wl ii J m k F B').2 := by
  intro m
  induction m with
  | zero => intro k F B B' a; exact ⟨rfl, a⟩
  | succ m ih =>
    intro k F B B' a
    have e1 : wi_to B' k = wi_to B k := by
      unfold wi_to
      rw [a 46 (by omega), a 50 (by omega), a 2 (by omega), a 44 (by omega), a 51 (by omega), a 47 (by omega)]
    rw [wl, wl, e1, a 44 (by omega)]
    split
    · obtain ⟨g1, g2⟩ := a.wi (F := F) (ii := ii) (J := J) (it := k) (uu := (B 44 k).toNatClampNeg) (to := (wi_to B k).toNatClampNeg)
      rw [g1]
      exact ih _ _ _ _ g2
    · exact ⟨rfl, a⟩
def rd_ag (R R' : rd_R) : Prop := match R with
  | .inl x => R' = .inl x
  | .inr q => ∃ B9, R' = .inr (q.1, B9) ∧ mo_ag q.2 B9
theorem rd_m_ag {f : Int32 → Int32 → Nat → (Nat → Nat → Int32) → rd_R} (hf : ∀ p inn n B B', mo_ag B B' → rd_ag (f p inn n B) (f p inn n B')) {sz su : Int32} : ∀ (r : Nat) (p inn : Int32) (n : Nat) (B B' : Nat → Nat → Int32), mo_ag B B' → rd_ag (rd_m f sz su r p inn n B) (rd_m f sz su r p inn n B') := by
  intro r
  induction r with
  | zero => intro p inn n B B' a; exact ⟨B', rfl, a⟩
  | succ r ih =>
    intro p inn n B B' a
    have h := hf p inn n B B' a
    rw [rd_m, rd_m]
    cases hx : f p inn n B with
    | inl x => rw [hx] at h; rw [show f p inn n B' = .inl x from h]; exact rfl
    | inr q =>
      rw [hx] at h
      obtain ⟨B9, e9, a9⟩ := h
      rw [e9]
      exact ih _ _ q.1 q.2 B9 a9
theorem rd_s_ag {g : ri_E → Nat → (Nat → Nat → Int32) → rd_R} {e : Nat → ri_E} (hg : ∀ e n B B', mo_ag B B' → rd_ag (g e n B) (g e n B')) : ∀ (r n : Nat) (B B' : Nat → Nat → Int32), mo_ag B B' → rd_ag (rd_s g e r n B) (rd_s g e r n B') := by
  intro r
  induction r with
  | zero => intro n B B' a; exact ⟨B', rfl, a⟩
  | succ r ih =>
    intro n B B' a
    have h := hg (e r) n B B' a
    rw [rd_s, rd_s]
    cases hx : g (e r) n B with
    | inl x => rw [hx] at h; rw [show g (e r) n B' = .inl x from h]; exact rfl
    | inr q =>
      rw [hx] at h
      obtain ⟨B9, e9, a9⟩ := h
      rw [e9]
      exact ih q.1 q.2 B9 a9
theorem rd_i_ag {T4 : Nat → Int32} {ct : Nat → Nat} {ii : Nat} : ∀ (d tt uu : Nat) (p ab inn : Int32) (n : Nat) (B B' : Nat → Nat → Int32), mo_ag B B' → rd_ag (rd_i T4 ct ii d tt uu p ab inn n B) (rd_i T4 ct ii d tt uu p ab inn n B') := by
  intro d
  induction d with
  | zero => intro tt uu p ab inn n B B' a; exact ⟨B', rfl, a⟩
  | succ d ih =>
    intro tt uu p ab inn n B B' a
    have h := a.ri ct ii tt uu p ab inn n
    rw [rd_i, rd_i]
    cases hx : ri_1 B ct ii tt uu p ab inn n with
    | inl x => rw [hx] at h; rw [show ri_1 B' ct ii tt uu p ab inn n = .inl x from h]; exact rfl
    | inr q =>
      rw [hx] at h
      obtain ⟨B9, e9, a9⟩ := h
      rw [e9]
      dsimp only
      refine rd_s_ag (fun e n B B' a => ?_) q.2.1 (n + 1) q.1 B9 a9
      exact rd_m_ag (fun p inn n B B' a => ih _ _ p _ inn n B B' a) _ _ _ _ _ _ a
