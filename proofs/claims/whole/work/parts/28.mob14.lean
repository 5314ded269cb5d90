/-! reading a whole value -/
/-- the tables agree but for what waits -/
def mo_ag (B B' : Nat → Nat → Int32) : Prop := ∀ k, k < 37 ∨ 42 < k → B' k = B k
theorem mo_ag.rf (B : Nat → Nat → Int32) : mo_ag B B := fun _ _ => rfl
theorem mo_ag.tr {B B' B'' : Nat → Nat → Int32} (a : mo_ag B B') (b : mo_ag B' B'') : mo_ag B B'' := fun k h => (b k h).trans (a k h)
theorem mo_ag.up {B B' : Nat → Nat → Int32} (a : mo_ag B B') {k : Nat} {g g' : Nat → Int32} (h : g' = g) : mo_ag (va_up B k g) (va_up B' k g') := by
  intro j hj
  by_cases e : j = k
  · subst e; rw [va_up_self, va_up_self, h]
  · rw [va_up_ne _ _ e, va_up_ne _ _ e, a j hj]
theorem mo_ag.ln {B B' : Nat → Nat → Int32} (a : mo_ag B B') (x p : Int32) (n : Nat) : mo_ln B' x p n = mo_ln B x p n := mo_ln_c (a 16 (by omega)) (a 18 (by omega)) (a 19 (by omega)) x p n
theorem mo_ag.rh {B B' : Nat → Nat → Int32} (a : mo_ag B B') (ii tt : Nat) (p : Int32) (it : Nat) : (mo_rh B' ii tt p it).1 = (mo_rh B ii tt p it).1 ∧ mo_ag (mo_rh B ii tt p it).2 (mo_rh B' ii tt p it).2 := by
  unfold mo_rh
  rw [a 13 (by omega), a 16 (by omega), a 20 (by omega), a 23 (by omega), a 17 (by omega), a 3 (by omega), a 2 (by omega), a 18 (by omega), a 21 (by omega), a 48 (by omega), a.ln]
  split
  · exact ⟨rfl, a⟩
  · split
    · exact ⟨rfl, a⟩
    · split
      · exact ⟨rfl, a.up rfl⟩
      · split
        · exact ⟨rfl, (a.up rfl).up rfl⟩
        · split
          · exact ⟨rfl, a.up rfl⟩
          · split
            · exact ⟨rfl, a.up rfl⟩
            · exact ⟨rfl, (a.up rfl).up rfl⟩
theorem mo_ag.B0 {B B' : Nat → Nat → Int32} (a : mo_ag B B') (nn uu : Nat) (p ab inn : Int32) : mo_ag (ri_B0 B nn uu p ab inn) (ri_B0 B' nn uu p ab inn) := by
  unfold ri_B0
  rw [a 44 (by omega), a 45 (by omega), a 46 (by omega), a 47 (by omega)]
  exact (((a.up rfl).up rfl).up rfl).up rfl
theorem mo_ag.B1 {B B' : Nat → Nat → Int32} (a : mo_ag B B') (ii nn uu : Nat) (p ab inn : Int32) : mo_ag (ri_B1 B ii nn uu p ab inn) (ri_B1 B' ii nn uu p ab inn) := by
  unfold ri_B1
  rw [a 48 (by omega), a 49 (by omega), a 13 (by omega)]
  exact ((a.B0 nn uu p ab inn).up rfl).up rfl
theorem mo_ag.rp {B B' : Nat → Nat → Int32} (a : mo_ag B B') (ii tt : Nat) (p : Int32) : mo_rp B' ii tt p = mo_rp B ii tt p := by
  unfold mo_rp
  rw [a 4 (by omega), a 2 (by omega), a 13 (by omega), a 3 (by omega)]
/-- what is read doesn't hang on what waits -/
def ri_ag (R R' : ri_T) : Prop := match R with
  | .inl x => R' = .inl x
  | .inr q => ∃ B', R' = .inr (B', q.2.1, q.2.2) ∧ mo_ag q.1 B'
theorem mo_ag.ri {B B' : Nat → Nat → Int32} (a : mo_ag B B') (ct : Nat → Nat) (ii tt uu : Nat) (p ab inn : Int32) (nn : Nat) : ri_ag (ri_1 B ct ii tt uu p ab inn nn) (ri_1 B' ct ii tt uu p ab inn nn) := by
  have hrh := (a.B0 nn uu p ab inn).rh ii tt p nn
  have he : ∀ k, ri_e B' tt uu p nn k = ri_e B tt uu p nn k := fun k => by unfold ri_e; rw [a 8 (by omega), a 9 (by omega)]
  unfold ri_1
  rw [a 5 (by omega), a 2 (by omega), a 13 (by omega), a 8 (by omega), a 7 (by omega), a.rp, hrh.1]
  simp only [he]
  split
  · exact rfl
  · split
    · exact rfl
    · split
      · cases ri_h p with
        | some q => exact rfl
        | none =>
          dsimp only
          split
          · exact rfl
          · exact ⟨_, rfl, a.B1 ii nn uu p ab inn⟩
      · split
        · cases ri_h p with
          | some q => exact rfl
          | none =>
            dsimp only
            split
            · exact ⟨_, rfl, a.B1 ii nn uu p ab inn⟩
            · exact ⟨_, rfl, a.B1 ii nn uu p ab inn⟩
        · split
          · exact ⟨_, rfl, a.B0 nn uu p ab inn⟩
          · split
            · split
              · exact rfl
              · split
                · exact rfl
                · exact ⟨_, rfl, a.B0 nn uu p ab inn⟩
            · split
              · split
                · exact rfl
                · exact ⟨_, rfl, hrh.2⟩
              · split
                · exact rfl
                · exact ⟨_, rfl, a.B0 nn uu p ab inn⟩
abbrev rd_R : Type := (Int32 × Int32) ⊕ (Nat × (Nat → Nat → Int32))
/-- some values behind one another -/
def rd_m (f : Int32 → Int32 → Nat → (Nat → Nat → Int32) → rd_R) (sz su : Int32) : Nat → Int32 → Int32 → Nat → (Nat → Nat → Int32) → rd_R
  | 0, _, _, n, B => .inr (n, B)
  | r + 1, p, inn, n, B => match f p inn n B with
    | .inl x => .inl x
    | .inr q => rd_m f sz su r (p + sz) (inn + su) q.1 q.2
/-- what waits, the latest first -/
def rd_s (g : ri_E → Nat → (Nat → Nat → Int32) → rd_R) (e : Nat → ri_E) : Nat → Nat → (Nat → Nat → Int32) → rd_R
  | 0, n, B => .inr (n, B)
  | r + 1, n, B => match g (e r) n B with
    | .inl x => .inl x
    | .inr q => rd_s g e r q.1 q.2
/-- a value and what is in it: a trap, or how many items there are then, and the tables -/
def rd_i (T4 : Nat → Int32) (ct : Nat → Nat) (ii : Nat) : Nat → Nat → Nat → Int32 → Int32 → Int32 → Nat → (Nat → Nat → Int32) → rd_R
  | 0, _, _, _, _, _, n, B => .inr (n, B)
  | d + 1, tt, uu, p, ab, inn, n, B => match ri_1 B ct ii tt uu p ab inn n with
    | .inl x => .inl x
    | .inr q => rd_s (fun e n B => rd_m (fun p inn n B => rd_i T4 ct ii d e.1.toNatClampNeg e.2.1.toNatClampNeg p e.2.2.2.2.1 inn n B) (T4 e.1.toNatClampNeg) (T4 e.2.1.toNatClampNeg) e.2.2.1.toNatClampNeg e.2.2.2.1 e.2.2.2.2.2 n B) q.2.2 q.2.1 (n + 1) q.1
/-- a thing that waits -/
def rd_e (T4 : Nat → Int32) (ct : Nat → Nat) (ii d : Nat) (e : ri_E) (n : Nat) (B : Nat → Nat → Int32) : rd_R := rd_m (fun p inn n B => rd_i T4 ct ii d e.1.toNatClampNeg e.2.1.toNatClampNeg p e.2.2.2.2.1 inn n B) (T4 e.1.toNatClampNeg) (T4 e.2.1.toNatClampNeg) e.2.2.1.toNatClampNeg e.2.2.2.1 e.2.2.2.2.2 n B
theorem mo_sw.ag {h : Nat} {B B' : Nat → Nat → Int32} (a : mo_sw h B B') : mo_ag B B' := a.1
/-- what all types are like, for reading -/
def ty_rd (B : Nat → Nat → Int32) (NT : Nat) (ct : Nat → Nat) : Prop := ∀ t, t < NT → ¬ B 5 t = 0 ∧ (B 2 t = 8 → ct t = 1) ∧ (¬ B 2 t = 6 → ¬ B 2 t = 8 → ¬ B 2 t = 9 → ¬ B 2 t = 10 → B 2 t ≤ 10 → ∃ sz, B 4 t = nI sz ∧ 1 ≤ sz ∧ sz ≤ 8 ∧ (B 2 t = 5 → sz = 4))
/-- t fits u, and their parts -/
def ty_ft (B : Nat → Nat → Int32) (ct : Nat → Nat) (pt : Nat → Nat → Nat) (R : Nat → Nat → Prop) : Prop := ∀ t u, R t u → mo_al B t u ∧ ∀ k, k < ty_sh ct t u → R (pt t k) (pt u k)
/-- which waiting things an item makes: parts of t and u -/
theorem ri_1e {B : Nat → Nat → Int32} {NT : Nat} {ct dp : Nat → Nat} {pt : Nat → Nat → Nat} {R : Nat → Nat → Prop} (hW : ty_wf B NT ct dp pt) (hD : ty_rd B NT ct) (hR : ty_ft B ct pt R) (h8 : mo_b8 B) {ii tt uu : Nat} (hii : ii < 6) (ht : tt < NT) (hu : uu < NT) (hf : R tt uu) {p ab inn : Int32} {nn : Nat} {q : (Nat → Nat → Int32) × Nat × (Nat → ri_E)} (h : ri_1 B ct ii tt uu p ab inn nn = .inr q) :
    q.2.1 ≤ 6 ∧ mo_sc B q.1 ∧ ¬ nn = 200 ∧ ∀ j, j < q.2.1 → ∃ t' u' mn, (q.2.2 j).1 = nI t' ∧ (q.2.2 j).2.1 = nI u' ∧ (q.2.2 j).2.2.1 = nI (mn + 1) ∧ mn ≤ 65535 ∧ t' < NT ∧ u' < NT ∧ dp t' < dp tt ∧ R t' u' := by
  obtain ⟨hal, hpt⟩ := hR tt uu hf
  obtain ⟨ht1, ht2, ht3, ht4⟩ := hW.2.1 tt ht
  obtain ⟨hu1, hu2, hu3, hu4⟩ := hW.2.1 uu hu
  have hsh : ty_sh ct tt uu ≤ ct tt ∧ ty_sh ct tt uu ≤ ct uu ∧ ty_sh ct tt uu ≤ 6 := by unfold ty_sh; split <;> omega
  have key : ∀ k, k < ty_sh ct tt uu → ∃ t' u' mn, (ri_e B tt uu p nn k).1 = nI t' ∧ (ri_e B tt uu p nn k).2.1 = nI u' ∧ (ri_e B tt uu p nn k).2.2.1 = nI (mn + 1) ∧ mn ≤ 65535 ∧ t' < NT ∧ u' < NT ∧ dp t' < dp tt ∧ R t' u' := by
    intro k hk
    obtain ⟨p1, p2, p3⟩ := hW.2.2 tt k ht (by omega)
    obtain ⟨q1, q2, q3⟩ := hW.2.2 uu k hu (by omega)
    exact ⟨pt tt k, pt uu k, 0, p1, q1, rfl, by omega, p2, q2, p3, hpt k hk⟩
  have sc1 : mo_sc B (ri_B1 B ii nn uu p ab inn) := ((ri_B0_sc B nn uu p ab inn).tr (mo_sc.up (k := 48) (by omega))).tr (mo_sc.up (k := 49) (by omega))
  unfold ri_1 at h
  split at h
  · cases h
  rename_i hn
  split at h
  · cases h
  split at h
  · cases hh : ri_h p with
    | some z => rw [hh] at h; cases h
    | none =>
      rw [hh] at h
      dsimp only at h
      split at h
      · cases h
      · cases h
        exact ⟨Nat.zero_le _, sc1, hn, fun j hj => absurd hj (Nat.not_lt_zero j)⟩
  split at h
  · rename_i k6 k8
    cases hh : ri_h p with
    | some z => rw [hh] at h; cases h
    | none =>
      rw [hh] at h
      dsimp only at h
      split at h
      · cases h
        exact ⟨Nat.zero_le _, sc1, hn, fun j hj => absurd hj (Nat.not_lt_zero j)⟩
      · rename_i hm
        cases h
        have hr2 : mo_rg (p + 2) 2 = none := by
          unfold ri_h at hh
          split at hh
          · cases hh
          · exact hh
        obtain ⟨v, hv, ev⟩ := mo_nb2 h8 hii hr2
        have hv1 : 1 ≤ v := by
          rcases Nat.eq_zero_or_pos v with z | z
          · rw [ev, z] at hm; exact absurd (by decide) hm
          · exact z
        have hsh1 : 0 < ty_sh ct tt uu := by
          have a1 := (hD tt ht).2.1 k8
          have a2 := (hD uu hu).2.1 (hal.1 ▸ k8)
          unfold ty_sh; split <;> omega
        obtain ⟨p1, p2, p3⟩ := hW.2.2 tt 0 ht (by omega)
        obtain ⟨q1, q2, q3⟩ := hW.2.2 uu 0 hu (by omega)
        exact ⟨by show 1 ≤ 6; decide, sc1, hn, fun j hj => ⟨pt tt 0, pt uu 0, v - 1, p1, q1, by rw [show v - 1 + 1 = v by omega]; exact ev, by omega, p2, q2, p3, hpt 0 hsh1⟩⟩
  split at h
  · cases h
    exact ⟨hsh.2.2, ri_B0_sc B nn uu p ab inn, hn, fun j hj => key _ (by dsimp only at hj; omega)⟩
  split at h
  · rename_i k10
    split at h
    · cases h
    rename_i hp
    split at h
    · cases h
    · rename_i hlt
      cases h
      obtain ⟨b, hb2, hby⟩ := mo_b8_at h8 hii hp
      have hbl : b < ct tt := by
        rw [hby] at hlt
        exact n_lt b (ct tt) (Decidable.not_not.mp hlt) rfl ht1
      have hcu : ct tt ≤ ct uu := by
        have := hal.2.2.2.2 k10
        exact n_nlt (ct uu) (ct tt) this hu1 ht1
      refine ⟨by show 1 ≤ 6; decide, ri_B0_sc B nn uu p ab inn, hn, fun j hj => ?_⟩
      have hsb : b < ty_sh ct tt uu := by unfold ty_sh; split <;> omega
      have := key b hsb
      rw [show (B 13 (256 * nI ii + p).toNatClampNeg).toNatClampNeg = b by rw [hby, nI_clamp (by omega)]]
      exact this
  split at h
  · cases hx : (mo_rh (ri_B0 B nn uu p ab inn) ii tt p nn).1 with
    | some r => rw [hx] at h; cases h
    | none =>
      rw [hx] at h
      cases h
      exact ⟨Nat.zero_le _, (ri_B0_sc B nn uu p ab inn).tr (mo_rh_sc _ _ _ _ _), hn, fun j hj => absurd hj (Nat.not_lt_zero j)⟩
  · cases hx : mo_rp B ii tt p with
    | some r => rw [hx] at h; cases h
    | none =>
      rw [hx] at h
      cases h
      exact ⟨Nat.zero_le _, ri_B0_sc B nn uu p ab inn, hn, fun j hj => absurd hj (Nat.not_lt_zero j)⟩

theorem tx_rc {f : Nat → Int32} {ii fr mn : Nat} {x : Int32 × Int32} : ∀ n k, tx_r f ii fr mn n k = some x → ¬ x.1 = 0 := by
  intro n
  induction n with
  | zero => intro k h; cases h
  | succ n ih =>
    intro k h
    rw [tx_r] at h
    split at h
    · cases h
    · cases e : tx_g f ii fr mn k with
      | some r =>
        rw [e] at h
        cases h
        rcases tx_cc e with z | z <;> rw [z] <;> decide
      | none => rw [e] at h; exact ih _ h
theorem mo_rp_nz {B : Nat → Nat → Int32} {ii tt : Nat} {p : Int32} {x : Int32 × Int32} (h : mo_rp B ii tt p = some x) : ¬ x.1 = 0 := by
  unfold mo_rp at h
  split at h
  · cases h; show ¬ (1 : Int32) = 0; decide
  · split at h
    · cases h; show ¬ (2 : Int32) = 0; decide
    · split at h
      · cases h; show ¬ (3 : Int32) = 0; decide
      · cases h
theorem mo_rh_nz {B : Nat → Nat → Int32} {ii tt : Nat} {p : Int32} {it : Nat} {x : Int32 × Int32} (h : (mo_rh B ii tt p it).1 = some x) : ¬ x.1 = 0 := by
  unfold mo_rh at h
  split at h
  · cases h; show ¬ (1 : Int32) = 0; decide
  · split at h
    · cases h; show ¬ (6 : Int32) = 0; decide
    · split at h
      · cases h; show ¬ (7 : Int32) = 0; decide
      · split at h
        · cases h
        · split at h
          · cases h; show ¬ (8 : Int32) = 0; decide
          · split at h
            · cases h; show ¬ (9 : Int32) = 0; decide
            · cases h
theorem ri_1nz {B : Nat → Nat → Int32} {ct : Nat → Nat} {ii tt uu : Nat} {p ab inn : Int32} {nn : Nat} {x : Int32 × Int32} (h : ri_1 B ct ii tt uu p ab inn nn = .inl x) : ¬ x.1 = 0 := by
  unfold ri_1 at h
  split at h
  · cases h; show ¬ (10 : Int32) = 0; decide
  split at h
  · cases h; show ¬ (5 : Int32) = 0; decide
  split at h
  · cases hh : ri_h p with
    | some z => rw [hh] at h; cases h; show ¬ (1 : Int32) = 0; decide
    | none =>
      rw [hh] at h
      dsimp only at h
      split at h
      · rename_i e; cases h; exact tx_rc _ _ e
      · cases h
  split at h
  · cases hh : ri_h p with
    | some z => rw [hh] at h; cases h; show ¬ (1 : Int32) = 0; decide
    | none =>
      rw [hh] at h
      dsimp only at h
      split at h <;> cases h
  split at h
  · cases h
  split at h
  · split at h
    · cases h; show ¬ (1 : Int32) = 0; decide
    split at h
    · cases h; show ¬ (2 : Int32) = 0; decide
    · cases h
  split at h
  · cases hx : (mo_rh (ri_B0 B nn uu p ab inn) ii tt p nn).1 with
    | some r => rw [hx] at h; cases h; exact mo_rh_nz hx
    | none => rw [hx] at h; cases h
  · cases hx : mo_rp B ii tt p with
    | some r => rw [hx] at h; cases h; exact mo_rp_nz hx
    | none => rw [hx] at h; cases h
def mo_wq (h : Nat) (B B' : Nat → Nat → Int32) : Prop := ∀ j, j < h → B' 37 j = B 37 j ∧ B' 38 j = B 38 j ∧ B' 39 j = B 39 j ∧ B' 40 j = B 40 j ∧ B' 41 j = B 41 j ∧ B' 42 j = B 42 j
theorem mo_wq.rf (h : Nat) (B : Nat → Nat → Int32) : mo_wq h B B := fun _ _ => ⟨rfl, rfl, rfl, rfl, rfl, rfl⟩
theorem mo_wq.tr {h : Nat} {B B' B'' : Nat → Nat → Int32} (a : mo_wq h B B') (b : mo_wq h B' B'') : mo_wq h B B'' := fun j hj => by
  obtain ⟨a1, a2, a3, a4, a5, a6⟩ := a j hj
  obtain ⟨b1, b2, b3, b4, b5, b6⟩ := b j hj
  exact ⟨b1.trans a1, b2.trans a2, b3.trans a3, b4.trans a4, b5.trans a5, b6.trans a6⟩
theorem mo_wq.le {h h' : Nat} {B B' : Nat → Nat → Int32} (a : mo_wq h B B') (hh : h' ≤ h) : mo_wq h' B B' := fun j hj => a j (Nat.lt_of_lt_of_le hj hh)
theorem mo_wq.ea {h j : Nat} {B B' : Nat → Nat → Int32} {e : ri_E} (a : mo_wq h B B') (hj : j < h) (x : mo_ea B j e) : mo_ea B' j e := by
  obtain ⟨a1, a2, a3, a4, a5, a6⟩ := a j hj
  obtain ⟨b1, b2, b3, b4, b5, b6⟩ := x
  exact ⟨a1.trans b1, a2.trans b2, a3.trans b3, a4.trans b4, a5.trans b5, a6.trans b6⟩
theorem ty_wf.co {B B' : Nat → Nat → Int32} {NT : Nat} {ct dp : Nat → Nat} {pt : Nat → Nat → Nat} (h : ty_wf B NT ct dp pt) (h7 : B' 7 = B 7) (h8 : B' 8 = B 8) : ty_wf B' NT ct dp pt := by
  unfold ty_wf
  rw [h7, h8]
  exact h
def ra_q (F : Nat → Int32) (B : Nat → Nat → Int32) (R : rd_R) (F1 : Nat → Int32) (B1 : Nat → Nat → Int32) : Prop := match R with
  | .inl x => F1 54 = x.1 ∧ F1 55 = x.2 ∧ (∀ k, k ≠ 36 → k ≠ 43 → k ≠ 54 → k ≠ 55 → F1 k = F k) ∧ mo_sc B B1
  | .inr q => F1 = upd (upd F 43 (nI q.1)) 36 (nI 0) ∧ q.1 ≤ 200 ∧ mo_sc B q.2 ∧ mo_ag q.2 B1

theorem upd_upd43 (F : Nat → Int32) (n h n2 h2 : Nat) : upd (upd (upd (upd F 43 (nI n)) 36 (nI h)) 43 (nI n2)) 36 (nI h2) = upd (upd F 43 (nI n2)) 36 (nI h2) := by
  funext j; simp only [upd]; split
  · rfl
  · split
    · rfl
    · rfl
theorem upd_c3643 (F : Nat → Int32) (x y z : Int32) : upd (upd (upd F 36 x) 43 y) 36 z = upd (upd F 43 y) 36 z := by
  funext j; simp only [upd]; split
  · rfl
  · split
    · rfl
    · rfl
theorem riwq {B : Nat → Nat → Int32} {ct : Nat → Nat} {ii tt uu : Nat} {p ab inn : Int32} {nn : Nat} {Bq : Nat → Nat → Int32} {len : Nat} {e : Nat → ri_E} (h : ri_1 B ct ii tt uu p ab inn nn = .inr (Bq, len, e)) {hh : Nat} {B1 : Nat → Nat → Int32} (a : ∀ j, j < hh → B1 37 j = Bq 37 j ∧ B1 38 j = Bq 38 j ∧ B1 39 j = Bq 39 j ∧ B1 40 j = Bq 40 j ∧ B1 41 j = Bq 41 j ∧ B1 42 j = Bq 42 j) : mo_wq hh B B1 := by
  have key : Bq 37 = B 37 ∧ Bq 38 = B 38 ∧ Bq 39 = B 39 ∧ Bq 40 = B 40 ∧ Bq 41 = B 41 ∧ Bq 42 = B 42 := by
    unfold ri_1 at h
    split at h
    · cases h
    split at h
    · cases h
    split at h
    · cases hh : ri_h p with
      | some z => rw [hh] at h; cases h
      | none =>
        rw [hh] at h
        dsimp only at h
        split at h
        · cases h
        · cases h; exact ⟨rfl, rfl, rfl, rfl, rfl, rfl⟩
    split at h
    · cases hh : ri_h p with
      | some z => rw [hh] at h; cases h
      | none =>
        rw [hh] at h
        dsimp only at h
        split at h
        · cases h; exact ⟨rfl, rfl, rfl, rfl, rfl, rfl⟩
        · cases h; exact ⟨rfl, rfl, rfl, rfl, rfl, rfl⟩
    split at h
    · cases h; exact ⟨rfl, rfl, rfl, rfl, rfl, rfl⟩
    split at h
    · split at h
      · cases h
      split at h
      · cases h
      · cases h; exact ⟨rfl, rfl, rfl, rfl, rfl, rfl⟩
    split at h
    · cases hx : (mo_rh (ri_B0 B nn uu p ab inn) ii tt p nn).1 with
      | some r => rw [hx] at h; cases h
      | none =>
        rw [hx] at h
        cases h
        unfold mo_rh
        split
        · exact ⟨rfl, rfl, rfl, rfl, rfl, rfl⟩
        · split
          · exact ⟨rfl, rfl, rfl, rfl, rfl, rfl⟩
          · split
            · exact ⟨rfl, rfl, rfl, rfl, rfl, rfl⟩
            · split
              · exact ⟨rfl, rfl, rfl, rfl, rfl, rfl⟩
              · split
                · exact ⟨rfl, rfl, rfl, rfl, rfl, rfl⟩
                · split
                  · exact ⟨rfl, rfl, rfl, rfl, rfl, rfl⟩
                  · exact ⟨rfl, rfl, rfl, rfl, rfl, rfl⟩
    · cases hx : mo_rp B ii tt p with
      | some r => rw [hx] at h; cases h
      | none => rw [hx] at h; cases h; exact ⟨rfl, rfl, rfl, rfl, rfl, rfl⟩
  obtain ⟨k1, k2, k3, k4, k5, k6⟩ := key
  intro j hj
  have := a j hj
  rw [k1, k2, k3, k4, k5, k6] at this
  exact this

set_option maxHeartbeats 4000000 in
set_option maxRecDepth 100000 in
theorem mt_readAll {l : Launch} {D : va_G} {tl : List (ClassId × FieldType)} {Z : (Nat → Prop) → State → Heap → Prop} {kI kZ : ClassId} {am : Nat → Nat} {F : Nat → Int32} {B : Nat → Nat → Int32} (hZ : ev_Zok Z) (ii : Nat) (tt : Nat) (at_ : Int32) (uu : Nat) (hii : ii < 6) (NT : Nat) (ct dp : Nat → Nat) (pt : Nat → Nat → Nat) (R : Nat → Nat → Prop) (hW : ty_wf B NT ct dp pt) (hD : ty_rd B NT ct) (hR : ty_ft B ct pt R) (htt : tt < NT) (huu : uu < NT) (hf : R tt uu) (h0 : F 54 = 0) (h8 : mo_b8 B) (hG : ∀ y, y < 102 → ¬ B 16 y = 0 → vp_in (B 17 y) 1024) : MT (mo_π l D cl_A kI kZ tl Z) m_readAll 0 0 [.ref (am 60), .int (nI ii), .int (nI tt), .int at_, .int (nI uu)] (mo_W mo_ci am kI kZ F B) (mo_qv am kI kZ (fun F1 B1 => ra_q F B (rd_e (B 4) ct ii 5 (nI tt, nI uu, 1, at_, -1, 0) 0 B) F1 B1)) := by
  refine mt_of mo_pl rfl (Nat.le_of_ble_eq_true rfl) (ev_eq (lv' := [some (.ref (am 60)), some (.int (nI ii)), some (.int (nI tt)), some (.int at_), some (.int (nI uu)), none, none, none, none, none, none]) ?_)
  have FIN : ∀ (n : Nat) (Bp B2 : Nat → Nat → Int32) (o5 o6 o7 o8 o9 o10 : Option Value), rd_e (B 4) ct ii 5 (nI tt, nI uu, 1, at_, -1, 0) 0 B = .inr (n, Bp) → n ≤ 200 → mo_sc B Bp → mo_ag Bp B2 → EV (mo_π l D cl_A kI kZ tl Z) m_readAll (ev_E (mo_π l D cl_A kI kZ tl Z) 0 0 (mo_qv am kI kZ (fun F1 B1 => ra_q F B (rd_e (B 4) ct ii 5 (nI tt, nI uu, 1, at_, -1, 0) 0 B) F1 B1))) 0 0 21 [some (.ref (am 60)), some (.int (nI ii)), some (.int (nI tt)), some (.int at_), some (.int (nI uu)), o5, o6, o7, o8, o9, o10] [] (mo_W mo_ci am kI kZ (upd (upd F 43 (nI (n))) 36 (nI (0))) B2) := by
    intro n Bp B2 o5 o6 o7 o8 o9 o10 hr hn hsc hag
    refine ev_aload_0 21 d_mo_readAll_21 ?_
    refine mo_geti 22 36 d_mo_readAll_22 lk_181 ?_
    refine ev_ifle 25 174 d_mo_readAll_25 (fun c25 => ?_) (fun c25 => ?_)
    · refine ev_vret 174 d_mo_readAll_174 rfl ?_
      exact ⟨_, _, rfl, rfl, by rw [hr]; exact ⟨rfl, hn, hsc, hag⟩⟩
    · exact absurd (show nI 0 ≤ 0 by decide) c25
  have TR : ∀ (x : Int32 × Int32) (F1 : Nat → Int32) (B1 : Nat → Nat → Int32) (o5 o6 o7 o8 o9 o10 : Option Value), rd_e (B 4) ct ii 5 (nI tt, nI uu, 1, at_, -1, 0) 0 B = .inl x → ¬ x.1 = 0 → F1 54 = x.1 → F1 55 = x.2 → (∀ k, k ≠ 36 → k ≠ 43 → k ≠ 54 → k ≠ 55 → F1 k = F k) → mo_sc B B1 → EV (mo_π l D cl_A kI kZ tl Z) m_readAll (ev_E (mo_π l D cl_A kI kZ tl Z) 0 0 (mo_qv am kI kZ (fun F1 B1 => ra_q F B (rd_e (B 4) ct ii 5 (nI tt, nI uu, 1, at_, -1, 0) 0 B) F1 B1))) 0 0 21 [some (.ref (am 60)), some (.int (nI ii)), some (.int (nI tt)), some (.int at_), some (.int (nI uu)), o5, o6, o7, o8, o9, o10] [] (mo_W mo_ci am kI kZ F1 B1) := by
    intro x F1 B1 o5 o6 o7 o8 o9 o10 hr hx a1 a2 a3 a4
    refine ev_aload_0 21 d_mo_readAll_21 ?_
    refine mo_geti 22 36 d_mo_readAll_22 lk_181 ?_
    refine ev_ifle 25 174 d_mo_readAll_25 (fun c25 => ?_) (fun c25 => ?_)
    · refine ev_vret 174 d_mo_readAll_174 rfl ?_
      exact ⟨_, _, rfl, rfl, by rw [hr]; exact ⟨a1, a2, a3, a4⟩⟩
    · refine ev_aload_0 28 d_mo_readAll_28 ?_
      refine mo_geti 29 54 d_mo_readAll_29 lk_224 ?_
      refine ev_ifne 32 174 d_mo_readAll_32 (fun c32 => ?_) (fun c32 => ?_)
      · refine ev_vret 174 d_mo_readAll_174 rfl ?_
        exact ⟨_, _, rfl, rfl, by rw [hr]; exact ⟨a1, a2, a3, a4⟩⟩
      · exact absurd (a1.symm.trans c32) hx
  have PR : ∀ (d t u : Nat) (ab : Int32), dp t ≤ d → t < NT → u < NT → R t u → ∀ (r : Nat) (pl inn : Int32) (n h : Nat) (Bc Bp : Nat → Nat → Int32) (o5 o6 o7 o8 o9 o10 : Option Value), r ≤ 65535 → h + 6 * d ≤ 52 → n ≤ 200 → mo_sc B Bp → mo_ag Bp Bc → mo_ea Bc h (nI t, nI u, nI (r + 1), pl, ab, inn) → (match rd_m (fun p inn n B9 => rd_i (B 4) ct ii d t u p ab inn n B9) (B 4 t) (B 4 u) (r + 1) pl inn n Bp with | .inl x => rd_e (B 4) ct ii 5 (nI tt, nI uu, 1, at_, -1, 0) 0 B = .inl x | .inr q => q.1 ≤ 200 → mo_sc B q.2 → ∀ (B2 : Nat → Nat → Int32) (q5 q6 q7 q8 q9 q10 : Option Value), mo_ag q.2 B2 → mo_wq (h) Bc B2 → EV (mo_π l D cl_A kI kZ tl Z) m_readAll (ev_E (mo_π l D cl_A kI kZ tl Z) 0 0 (mo_qv am kI kZ (fun F1 B1 => ra_q F B (rd_e (B 4) ct ii 5 (nI tt, nI uu, 1, at_, -1, 0) 0 B) F1 B1))) 0 0 21 [some (.ref (am 60)), some (.int (nI ii)), some (.int (nI tt)), some (.int at_), some (.int (nI uu)), q5, q6, q7, q8, q9, q10] [] (mo_W mo_ci am kI kZ (upd (upd F 43 (nI (q.1))) 36 (nI (h))) B2)) → EV (mo_π l D cl_A kI kZ tl Z) m_readAll (ev_E (mo_π l D cl_A kI kZ tl Z) 0 0 (mo_qv am kI kZ (fun F1 B1 => ra_q F B (rd_e (B 4) ct ii 5 (nI tt, nI uu, 1, at_, -1, 0) 0 B) F1 B1))) 0 0 21 [some (.ref (am 60)), some (.int (nI ii)), some (.int (nI tt)), some (.int at_), some (.int (nI uu)), o5, o6, o7, o8, o9, o10] [] (mo_W mo_ci am kI kZ (upd (upd F 43 (nI (n))) 36 (nI (h + 1))) Bc) := by
    intro d
    induction d with
    | zero => intro t u ab hd ht; exact absurd (hW.2.1 t ht).2.2.1 (by omega)
    | succ d ihd =>
      intro t u ab hd ht hu hf
      have SB : ∀ (len h1 n1 : Nat) (e : Nat → ri_E) (Bp1 B1 : Nat → Nat → Int32) (o5 o6 o7 o8 o9 o10 : Option Value), len ≤ 6 → h1 + len + 6 * d ≤ 53 → (∀ j, j < len → ∃ t2 u2 mn, (e j).1 = nI t2 ∧ (e j).2.1 = nI u2 ∧ (e j).2.2.1 = nI (mn + 1) ∧ mn ≤ 65535 ∧ t2 < NT ∧ u2 < NT ∧ dp t2 < dp t ∧ R t2 u2) → (∀ j, j < len → mo_ea B1 (h1 + j) (e j)) → n1 ≤ 200 → mo_sc B Bp1 → mo_ag Bp1 B1 → (match rd_s (rd_e (B 4) ct ii d) e len n1 Bp1 with | .inl x => rd_e (B 4) ct ii 5 (nI tt, nI uu, 1, at_, -1, 0) 0 B = .inl x | .inr q => q.1 ≤ 200 → mo_sc B q.2 → ∀ (B2 : Nat → Nat → Int32) (q5 q6 q7 q8 q9 q10 : Option Value), mo_ag q.2 B2 → mo_wq (h1) B1 B2 → EV (mo_π l D cl_A kI kZ tl Z) m_readAll (ev_E (mo_π l D cl_A kI kZ tl Z) 0 0 (mo_qv am kI kZ (fun F1 B1 => ra_q F B (rd_e (B 4) ct ii 5 (nI tt, nI uu, 1, at_, -1, 0) 0 B) F1 B1))) 0 0 21 [some (.ref (am 60)), some (.int (nI ii)), some (.int (nI tt)), some (.int at_), some (.int (nI uu)), q5, q6, q7, q8, q9, q10] [] (mo_W mo_ci am kI kZ (upd (upd F 43 (nI (q.1))) 36 (nI (h1))) B2)) → EV (mo_π l D cl_A kI kZ tl Z) m_readAll (ev_E (mo_π l D cl_A kI kZ tl Z) 0 0 (mo_qv am kI kZ (fun F1 B1 => ra_q F B (rd_e (B 4) ct ii 5 (nI tt, nI uu, 1, at_, -1, 0) 0 B) F1 B1))) 0 0 21 [some (.ref (am 60)), some (.int (nI ii)), some (.int (nI tt)), some (.int at_), some (.int (nI uu)), o5, o6, o7, o8, o9, o10] [] (mo_W mo_ci am kI kZ (upd (upd F 43 (nI (n1))) 36 (nI (h1 + len))) B1) := by
        intro len
        induction len with
        | zero =>
          intro h1 n1 e Bp1 B1 o5 o6 o7 o8 o9 o10 hl hb hc hea hn hsc hag hk9
          exact hk9 hn hsc B1 o5 o6 o7 o8 o9 o10 hag (mo_wq.rf _ _)
        | succ len ihl =>
          intro h1 n1 e Bp1 B1 o5 o6 o7 o8 o9 o10 hl hb hc hea hn hsc hag hk9
          obtain ⟨t2, u2, mn, a1, a2, a3, a4, a5, a6, a7, a8⟩ := hc len (by omega)
          have hT32 := hW.1
          have heq : rd_e (B 4) ct ii d (e len) n1 Bp1 = rd_m (fun p inn n B9 => rd_i (B 4) ct ii d t2 u2 p (e len).2.2.2.2.1 inn n B9) (B 4 t2) (B 4 u2) (mn + 1) (e len).2.2.2.1 (e len).2.2.2.2.2 n1 Bp1 := by
            unfold rd_e
            rw [a1, a2, a3, nI_clamp (by omega), nI_clamp (by omega), nI_clamp (by omega)]
          have hee := hea len (by omega)
          refine ihd t2 u2 (e len).2.2.2.2.1 (by omega) a5 a6 a8 mn (e len).2.2.2.1 (e len).2.2.2.2.2 n1 (h1 + len) B1 Bp1 o5 o6 o7 o8 o9 o10 a4 (by omega) hn hsc hag ⟨hee.1.trans a1, hee.2.1.trans a2, hee.2.2.1.trans a3, hee.2.2.2.1, hee.2.2.2.2.1, hee.2.2.2.2.2⟩ ?_
          rw [← heq]
          rw [rd_s] at hk9
          cases hx : rd_e (B 4) ct ii d (e len) n1 Bp1 with
          | inl x => rw [hx] at hk9; exact hk9
          | inr q =>
            rw [hx] at hk9
            dsimp only at hk9
            intro b1 b2 B2 q5 q6 q7 q8 q9 q10 b3 b4
            refine ihl h1 q.1 e q.2 B2 q5 q6 q7 q8 q9 q10 (by omega) (by omega) (fun j hj => hc j (by omega)) (fun j hj => b4.ea (by omega) (hea j (by omega))) b1 b2 b3 ?_
            cases hy : rd_s (rd_e (B 4) ct ii d) e len q.1 q.2 with
            | inl x => rw [hy] at hk9; exact hk9
            | inr q2 =>
              rw [hy] at hk9
              intro c1 c2 B3 p5 p6 p7 p8 p9 p10 c3 c4
              exact hk9 c1 c2 B3 p5 p6 p7 p8 p9 p10 c3 ((b4.le (by omega)).tr c4)
      have ST : ∀ (r : Nat) (pl inn : Int32) (n h HH : Nat) (Bc Bp : Nat → Nat → Int32) (o5 o6 o7 o8 o9 o10 : Option Value), HH = (if r = 0 then h else h + 1) → r ≤ 65535 → h + 6 * (d + 1) ≤ 52 → n ≤ 200 → mo_sc B Bp → mo_ag Bp Bc → mo_ea Bc h (nI t, nI u, nI (r + 1), pl, ab, inn) → (match rd_i (B 4) ct ii (d + 1) t u pl ab inn n Bp with | .inl x => rd_e (B 4) ct ii 5 (nI tt, nI uu, 1, at_, -1, 0) 0 B = .inl x | .inr q => q.1 ≤ 200 → mo_sc B q.2 → ∀ (B2 : Nat → Nat → Int32) (q5 q6 q7 q8 q9 q10 : Option Value), mo_ag q.2 B2 → mo_wq HH (va_up (va_up (va_up Bc 39 (upd (Bc 39) h (nI r))) 40 (upd (Bc 40) h (pl + B 4 t))) 42 (upd (Bc 42) h (inn + B 4 u))) B2 → EV (mo_π l D cl_A kI kZ tl Z) m_readAll (ev_E (mo_π l D cl_A kI kZ tl Z) 0 0 (mo_qv am kI kZ (fun F1 B1 => ra_q F B (rd_e (B 4) ct ii 5 (nI tt, nI uu, 1, at_, -1, 0) 0 B) F1 B1))) 0 0 21 [some (.ref (am 60)), some (.int (nI ii)), some (.int (nI tt)), some (.int at_), some (.int (nI uu)), q5, q6, q7, q8, q9, q10] [] (mo_W mo_ci am kI kZ (upd (upd F 43 (nI (q.1))) 36 (nI (HH))) B2)) → EV (mo_π l D cl_A kI kZ tl Z) m_readAll (ev_E (mo_π l D cl_A kI kZ tl Z) 0 0 (mo_qv am kI kZ (fun F1 B1 => ra_q F B (rd_e (B 4) ct ii 5 (nI tt, nI uu, 1, at_, -1, 0) 0 B) F1 B1))) 0 0 21 [some (.ref (am 60)), some (.int (nI ii)), some (.int (nI tt)), some (.int at_), some (.int (nI uu)), o5, o6, o7, o8, o9, o10] [] (mo_W mo_ci am kI kZ (upd (upd F 43 (nI (n))) 36 (nI (h + 1))) Bc) := by
        intro r pl inn n h HH Bc Bp o5 o6 o7 o8 o9 o10 hHH hr hh hn hsc hag hea hK
        have hT32 := hW.1
        have hc4 : Bc 4 = B 4 := (hag 4 (by omega)).trans (hsc 4 (by omega) (by omega) (by omega) (by omega))
        obtain ⟨x1, x2, x3, x4, x5, x6⟩ := hea
        refine ev_aload_0 21 d_mo_readAll_21 ?_
        refine mo_geti 22 36 d_mo_readAll_22 lk_181 ?_
        refine ev_ifle 25 174 d_mo_readAll_25 (fun c25 => ?_) (fun c25 => ?_)
        · exact absurd (show nI (h + 1) ≤ 0 from c25) (nI_nle (by omega) (by omega))
        · refine ev_aload_0 28 d_mo_readAll_28 ?_
          refine mo_geti 29 54 d_mo_readAll_29 lk_224 ?_
          refine ev_ifne 32 174 d_mo_readAll_32 (fun c32 => ?_) (fun c32 => ?_)
          · exact absurd h0 c32
          · refine ev_aload_0 35 d_mo_readAll_35 ?_
            refine mo_geti 36 36 d_mo_readAll_36 lk_181 ?_
            refine ev_iconst_1 39 d_mo_readAll_39 ?_
            refine ev_isub 40 d_mo_readAll_40 ?_
            refine ev_topi (nI h) (show nI (h + 1) - 1 = nI h from nI_pred h) ?_
            refine ev_istore_5 41 d_mo_readAll_41 ?_
            refine ev_aload_0 43 d_mo_readAll_43 ?_
            refine mo_getr 44 26 37 d_mo_readAll_44 lk_93 ?_
            refine ev_iload_5 47 d_mo_readAll_47 ?_
            refine mo_aldn (j := h) 49 26 37 d_mo_readAll_49 (by show h < 64; omega) ?_
            refine ev_topi (nI t) x1 ?_
            refine ev_istore_6 50 d_mo_readAll_50 ?_
            refine ev_aload_0 52 d_mo_readAll_52 ?_
            refine mo_getr 53 27 38 d_mo_readAll_53 lk_96 ?_
            refine ev_iload_5 56 d_mo_readAll_56 ?_
            refine mo_aldn (j := h) 58 27 38 d_mo_readAll_58 (by show h < 64; omega) ?_
            refine ev_topi (nI u) x2 ?_
            refine ev_istore_7 59 d_mo_readAll_59 ?_
            refine ev_aload_0 61 d_mo_readAll_61 ?_
            refine mo_getr 62 29 40 d_mo_readAll_62 lk_102 ?_
            refine ev_iload_5 65 d_mo_readAll_65 ?_
            refine mo_aldn (j := h) 67 29 40 d_mo_readAll_67 (by show h < 64; omega) ?_
            refine ev_topi pl x4 ?_
            refine ev_istore_8 68 d_mo_readAll_68 ?_
            refine ev_aload_0 70 d_mo_readAll_70 ?_
            refine mo_getr 71 30 41 d_mo_readAll_71 lk_105 ?_
            refine ev_iload_5 74 d_mo_readAll_74 ?_
            refine mo_aldn (j := h) 76 30 41 d_mo_readAll_76 (by show h < 64; omega) ?_
            refine ev_topi ab x5 ?_
            refine ev_istore_9 77 d_mo_readAll_77 ?_
            refine ev_aload_0 79 d_mo_readAll_79 ?_
            refine mo_getr 80 31 42 d_mo_readAll_80 lk_108 ?_
            refine ev_iload_5 83 d_mo_readAll_83 ?_
            refine mo_aldn (j := h) 85 31 42 d_mo_readAll_85 (by show h < 64; omega) ?_
            refine ev_topi inn x6 ?_
            refine ev_istore_10 86 d_mo_readAll_86 ?_
            refine ev_aload_0 88 d_mo_readAll_88 ?_
            refine mo_getr 89 28 39 d_mo_readAll_89 lk_99 ?_
            refine ev_iload_5 92 d_mo_readAll_92 ?_
            refine ev_dup2 94 d_mo_readAll_94 ?_
            refine mo_aldn (j := h) 95 28 39 d_mo_readAll_95 (by show h < 64; omega) ?_
            refine ev_topi (nI (r + 1)) x3 ?_
            refine ev_iconst_1 96 d_mo_readAll_96 ?_
            refine ev_isub 97 d_mo_readAll_97 ?_
            refine ev_topi (nI r) (nI_pred r) ?_
            refine mo_astn (j := h) 98 28 39 d_mo_readAll_98 (by show h < 64; omega) ?_
            refine ev_aload_0 99 d_mo_readAll_99 ?_
            refine mo_getr 100 29 40 d_mo_readAll_100 lk_102 ?_
            refine ev_iload_5 103 d_mo_readAll_103 ?_
            refine ev_iload_8 105 d_mo_readAll_105 ?_
            refine ev_aload_0 107 d_mo_readAll_107 ?_
            refine mo_getr 108 2 4 d_mo_readAll_108 lk_16 ?_
            refine ev_iload_6 111 d_mo_readAll_111 ?_
            refine mo_aldn (j := t) 113 2 4 d_mo_readAll_113 (by show t < 32; omega) ?_
            refine ev_topi (B 4 t) (show Bc 4 t = B 4 t by rw [hc4]) ?_
            refine ev_iadd 114 d_mo_readAll_114 ?_
            refine mo_astn (j := h) 115 29 40 d_mo_readAll_115 (by show h < 64; omega) ?_
            refine ev_aload_0 116 d_mo_readAll_116 ?_
            refine mo_getr 117 31 42 d_mo_readAll_117 lk_108 ?_
            refine ev_iload_5 120 d_mo_readAll_120 ?_
            refine ev_iload_10 122 d_mo_readAll_122 ?_
            refine ev_aload_0 124 d_mo_readAll_124 ?_
            refine mo_getr 125 2 4 d_mo_readAll_125 lk_16 ?_
            refine ev_iload_7 128 d_mo_readAll_128 ?_
            refine mo_aldn (j := u) 130 2 4 d_mo_readAll_130 (by show u < 32; omega) ?_
            refine ev_topi (B 4 u) (show Bc 4 u = B 4 u by rw [hc4]) ?_
            refine ev_iadd 131 d_mo_readAll_131 ?_
            refine mo_astn (j := h) 132 31 42 d_mo_readAll_132 (by show h < 64; omega) ?_
            refine ev_aload_0 133 d_mo_readAll_133 ?_
            refine ev_aload_0 134 d_mo_readAll_134 ?_
            refine mo_getr 135 28 39 d_mo_readAll_135 lk_99 ?_
            refine ev_iload_5 138 d_mo_readAll_138 ?_
            refine mo_aldn (j := h) 140 28 39 d_mo_readAll_140 (by show h < 64; omega) ?_
            refine ev_topi (nI r) (show upd (Bc 39) h (nI r) h = nI r from upd_eq) ?_
            refine ev_ifne 141 149 d_mo_readAll_141 (fun c141 => ?_) (fun c141 => ?_)
            · refine ev_aload_0 149 d_mo_readAll_149 ?_
              refine mo_geti 150 36 d_mo_readAll_150 lk_181 ?_
              refine ev_topi (nI HH) (by rw [hHH, if_neg (fun z => c141 (by rw [z]; rfl))]; rfl) ?_
              refine mo_puti 153 36 d_mo_readAll_153 lp_181 ?_
              rw [upd_upd]
              obtain ⟨Bm, hBm⟩ : ∃ Bm : Nat → Nat → Int32, Bm = va_up (va_up (va_up Bc 39 (upd (Bc 39) h (nI r))) 40 (upd (Bc 40) h (pl + B 4 t))) 42 (upd (Bc 42) h (inn + B 4 u)) := ⟨_, rfl⟩
              refine ev_eq (ws' := mo_W mo_ci am kI kZ (upd (upd F 43 (nI (n))) 36 (nI (HH))) Bm) ?_ (h3 := by rw [hBm]; rfl)
              have hagm : mo_ag Bc Bm := by
                intro k hk
                have k1 : k ≠ 39 := by omega
                have k2 : k ≠ 40 := by omega
                have k3 : k ≠ 42 := by omega
                rw [hBm, va_up_ne _ _ k3, va_up_ne _ _ k2, va_up_ne _ _ k1]
              have hmsc : mo_sc B Bm := fun k k1 k2 k3 k4 => (hagm k k3).trans ((hag k k3).trans (hsc k k1 k2 k3 k4))
              have e2 : Bm 2 = B 2 := hmsc 2 (by omega) (by omega) (by omega) (by omega)
              have e4 : Bm 4 = B 4 := hmsc 4 (by omega) (by omega) (by omega) (by omega)
              have e5 : Bm 5 = B 5 := hmsc 5 (by omega) (by omega) (by omega) (by omega)
              have e7 : Bm 7 = B 7 := hmsc 7 (by omega) (by omega) (by omega) (by omega)
              have e8 : Bm 8 = B 8 := hmsc 8 (by omega) (by omega) (by omega) (by omega)
              have e13 : Bm 13 = B 13 := hmsc 13 (by omega) (by omega) (by omega) (by omega)
              have e16 : Bm 16 = B 16 := hmsc 16 (by omega) (by omega) (by omega) (by omega)
              have e17 : Bm 17 = B 17 := hmsc 17 (by omega) (by omega) (by omega) (by omega)
              have hHb : HH ≤ h + 1 := by rw [hHH]; split <;> omega
              refine ev_aload_0 156 d_mo_readAll_156 ?_
              refine ev_iload_1 157 d_mo_readAll_157 ?_
              refine ev_iload_6 158 d_mo_readAll_158 ?_
              refine ev_iload_7 160 d_mo_readAll_160 ?_
              refine ev_iload_8 162 d_mo_readAll_162 ?_
              refine ev_iload_9 164 d_mo_readAll_164 ?_
              refine ev_iload_10 166 d_mo_readAll_166 ?_
              refine mo_callv6 168 d_mo_readAll_168 hZ kc_257 (mt_readItem (F := (upd (upd F 43 (nI (n))) 36 (nI (HH)))) (B := Bm) hZ ii t u pl ab inn hii NT ct dp pt (hW.co (e7) (e8)) ht hu h0 (by unfold mo_b8; rw [e13]; exact h8) (by rw [e5]; exact (hD t ht).1) n rfl hn HH rfl (by omega) (by rw [e16, e17]; exact hG) (by rw [e2, e4]; exact (hD t ht).2.2)) (fun F1 B1 h9 => ?_)
              refine ev_goto 171 21 d_mo_readAll_171 ?_
              have hri := (hag.tr hagm).ri ct ii t u pl ab inn n
              rw [rd_i] at hK
              cases hx : ri_1 Bp ct ii t u pl ab inn n with
              | inl x =>
                rw [hx] at hri hK
                rw [show ri_1 Bm ct ii t u pl ab inn n = .inl x from hri] at h9
                obtain ⟨a1, a2, a3, a4⟩ := h9
                exact TR x F1 B1 _ _ _ _ _ _ hK (ri_1nz hx) a1 a2 (fun k k1 k2 k3 k4 => (a3 k k2 k3 k4).trans ((upd_ne k1).trans (upd_ne k2))) (hmsc.tr a4)
              | inr q =>
                rw [hx] at hri hK
                obtain ⟨Bq, e1, hagq⟩ := hri
                rw [e1] at h9
                obtain ⟨a1, a2, a3⟩ := h9
                have h8p : mo_b8 Bp := by unfold mo_b8; rw [hsc 13 (by omega) (by omega) (by omega) (by omega)]; exact h8
                obtain ⟨b1, b2, b3, b4⟩ := ri_1e (hW.co (hsc 7 (by omega) (by omega) (by omega) (by omega)) (hsc 8 (by omega) (by omega) (by omega) (by omega))) (by unfold ty_rd; rw [hsc 5 (by omega) (by omega) (by omega) (by omega), hsc 2 (by omega) (by omega) (by omega) (by omega), hsc 4 (by omega) (by omega) (by omega) (by omega)]; exact hD) (by unfold ty_ft mo_al; rw [hsc 2 (by omega) (by omega) (by omega) (by omega), hsc 3 (by omega) (by omega) (by omega) (by omega), hsc 7 (by omega) (by omega) (by omega) (by omega)]; exact hR) h8p hii ht hu hf hx
                have hn1 : n + 1 ≤ 200 := by omega
                dsimp only at a1 a2 a3
                rw [upd_upd43] at a1
                subst a1
                refine SB q.2.1 HH (n + 1) q.2.2 q.1 B1 _ _ _ _ _ _ b1 (by omega) b4 a3 hn1 (hsc.tr b2) (hagq.tr a2.ag) ?_
                have hk9 : (match rd_s (rd_e (B 4) ct ii d) q.2.2 q.2.1 (n + 1) q.1 with | .inl x => rd_e (B 4) ct ii 5 (nI tt, nI uu, 1, at_, -1, 0) 0 B = .inl x | .inr q => q.1 ≤ 200 → mo_sc B q.2 → ∀ (B2 : Nat → Nat → Int32) (q5 q6 q7 q8 q9 q10 : Option Value), mo_ag q.2 B2 → mo_wq HH (va_up (va_up (va_up Bc 39 (upd (Bc 39) h (nI r))) 40 (upd (Bc 40) h (pl + B 4 t))) 42 (upd (Bc 42) h (inn + B 4 u))) B2 → EV (mo_π l D cl_A kI kZ tl Z) m_readAll (ev_E (mo_π l D cl_A kI kZ tl Z) 0 0 (mo_qv am kI kZ (fun F1 B1 => ra_q F B (rd_e (B 4) ct ii 5 (nI tt, nI uu, 1, at_, -1, 0) 0 B) F1 B1))) 0 0 21 [some (.ref (am 60)), some (.int (nI ii)), some (.int (nI tt)), some (.int at_), some (.int (nI uu)), q5, q6, q7, q8, q9, q10] [] (mo_W mo_ci am kI kZ (upd (upd F 43 (nI (q.1))) 36 (nI (HH))) B2)) := hK
                cases hy : rd_s (rd_e (B 4) ct ii d) q.2.2 q.2.1 (n + 1) q.1 with
                | inl x => rw [hy] at hk9; exact hk9
                | inr q2 =>
                  rw [hy] at hk9
                  intro c1 c2 B3 p5 p6 p7 p8 p9 p10 c3 c4
                  refine hk9 c1 c2 B3 p5 p6 p7 p8 p9 p10 c3 ?_
                  rw [← hBm]
                  exact (riwq e1 a2.2).tr c4
            · refine ev_iload_5 144 d_mo_readAll_144 ?_
              refine ev_goto 146 153 d_mo_readAll_146 ?_
              refine ev_topi (nI HH) (by rw [hHH, if_pos ((n_z (by omega)).mp c141)]) ?_
              refine mo_puti 153 36 d_mo_readAll_153 lp_181 ?_
              rw [upd_upd]
              obtain ⟨Bm, hBm⟩ : ∃ Bm : Nat → Nat → Int32, Bm = va_up (va_up (va_up Bc 39 (upd (Bc 39) h (nI r))) 40 (upd (Bc 40) h (pl + B 4 t))) 42 (upd (Bc 42) h (inn + B 4 u)) := ⟨_, rfl⟩
              refine ev_eq (ws' := mo_W mo_ci am kI kZ (upd (upd F 43 (nI (n))) 36 (nI (HH))) Bm) ?_ (h3 := by rw [hBm]; rfl)
              have hagm : mo_ag Bc Bm := by
                intro k hk
                have k1 : k ≠ 39 := by omega
                have k2 : k ≠ 40 := by omega
                have k3 : k ≠ 42 := by omega
                rw [hBm, va_up_ne _ _ k3, va_up_ne _ _ k2, va_up_ne _ _ k1]
              have hmsc : mo_sc B Bm := fun k k1 k2 k3 k4 => (hagm k k3).trans ((hag k k3).trans (hsc k k1 k2 k3 k4))
              have e2 : Bm 2 = B 2 := hmsc 2 (by omega) (by omega) (by omega) (by omega)
              have e4 : Bm 4 = B 4 := hmsc 4 (by omega) (by omega) (by omega) (by omega)
              have e5 : Bm 5 = B 5 := hmsc 5 (by omega) (by omega) (by omega) (by omega)
              have e7 : Bm 7 = B 7 := hmsc 7 (by omega) (by omega) (by omega) (by omega)
              have e8 : Bm 8 = B 8 := hmsc 8 (by omega) (by omega) (by omega) (by omega)
              have e13 : Bm 13 = B 13 := hmsc 13 (by omega) (by omega) (by omega) (by omega)
              have e16 : Bm 16 = B 16 := hmsc 16 (by omega) (by omega) (by omega) (by omega)
              have e17 : Bm 17 = B 17 := hmsc 17 (by omega) (by omega) (by omega) (by omega)
              have hHb : HH ≤ h + 1 := by rw [hHH]; split <;> omega
              refine ev_aload_0 156 d_mo_readAll_156 ?_
              refine ev_iload_1 157 d_mo_readAll_157 ?_
              refine ev_iload_6 158 d_mo_readAll_158 ?_
              refine ev_iload_7 160 d_mo_readAll_160 ?_
              refine ev_iload_8 162 d_mo_readAll_162 ?_
              refine ev_iload_9 164 d_mo_readAll_164 ?_
              refine ev_iload_10 166 d_mo_readAll_166 ?_
              refine mo_callv6 168 d_mo_readAll_168 hZ kc_257 (mt_readItem (F := (upd (upd F 43 (nI (n))) 36 (nI (HH)))) (B := Bm) hZ ii t u pl ab inn hii NT ct dp pt (hW.co (e7) (e8)) ht hu h0 (by unfold mo_b8; rw [e13]; exact h8) (by rw [e5]; exact (hD t ht).1) n rfl hn HH rfl (by omega) (by rw [e16, e17]; exact hG) (by rw [e2, e4]; exact (hD t ht).2.2)) (fun F1 B1 h9 => ?_)
              refine ev_goto 171 21 d_mo_readAll_171 ?_
              have hri := (hag.tr hagm).ri ct ii t u pl ab inn n
              rw [rd_i] at hK
              cases hx : ri_1 Bp ct ii t u pl ab inn n with
              | inl x =>
                rw [hx] at hri hK
                rw [show ri_1 Bm ct ii t u pl ab inn n = .inl x from hri] at h9
                obtain ⟨a1, a2, a3, a4⟩ := h9
                exact TR x F1 B1 _ _ _ _ _ _ hK (ri_1nz hx) a1 a2 (fun k k1 k2 k3 k4 => (a3 k k2 k3 k4).trans ((upd_ne k1).trans (upd_ne k2))) (hmsc.tr a4)
              | inr q =>
                rw [hx] at hri hK
                obtain ⟨Bq, e1, hagq⟩ := hri
                rw [e1] at h9
                obtain ⟨a1, a2, a3⟩ := h9
                have h8p : mo_b8 Bp := by unfold mo_b8; rw [hsc 13 (by omega) (by omega) (by omega) (by omega)]; exact h8
                obtain ⟨b1, b2, b3, b4⟩ := ri_1e (hW.co (hsc 7 (by omega) (by omega) (by omega) (by omega)) (hsc 8 (by omega) (by omega) (by omega) (by omega))) (by unfold ty_rd; rw [hsc 5 (by omega) (by omega) (by omega) (by omega), hsc 2 (by omega) (by omega) (by omega) (by omega), hsc 4 (by omega) (by omega) (by omega) (by omega)]; exact hD) (by unfold ty_ft mo_al; rw [hsc 2 (by omega) (by omega) (by omega) (by omega), hsc 3 (by omega) (by omega) (by omega) (by omega), hsc 7 (by omega) (by omega) (by omega) (by omega)]; exact hR) h8p hii ht hu hf hx
                have hn1 : n + 1 ≤ 200 := by omega
                dsimp only at a1 a2 a3
                rw [upd_upd43] at a1
                subst a1
                refine SB q.2.1 HH (n + 1) q.2.2 q.1 B1 _ _ _ _ _ _ b1 (by omega) b4 a3 hn1 (hsc.tr b2) (hagq.tr a2.ag) ?_
                have hk9 : (match rd_s (rd_e (B 4) ct ii d) q.2.2 q.2.1 (n + 1) q.1 with | .inl x => rd_e (B 4) ct ii 5 (nI tt, nI uu, 1, at_, -1, 0) 0 B = .inl x | .inr q => q.1 ≤ 200 → mo_sc B q.2 → ∀ (B2 : Nat → Nat → Int32) (q5 q6 q7 q8 q9 q10 : Option Value), mo_ag q.2 B2 → mo_wq HH (va_up (va_up (va_up Bc 39 (upd (Bc 39) h (nI r))) 40 (upd (Bc 40) h (pl + B 4 t))) 42 (upd (Bc 42) h (inn + B 4 u))) B2 → EV (mo_π l D cl_A kI kZ tl Z) m_readAll (ev_E (mo_π l D cl_A kI kZ tl Z) 0 0 (mo_qv am kI kZ (fun F1 B1 => ra_q F B (rd_e (B 4) ct ii 5 (nI tt, nI uu, 1, at_, -1, 0) 0 B) F1 B1))) 0 0 21 [some (.ref (am 60)), some (.int (nI ii)), some (.int (nI tt)), some (.int at_), some (.int (nI uu)), q5, q6, q7, q8, q9, q10] [] (mo_W mo_ci am kI kZ (upd (upd F 43 (nI (q.1))) 36 (nI (HH))) B2)) := hK
                cases hy : rd_s (rd_e (B 4) ct ii d) q.2.2 q.2.1 (n + 1) q.1 with
                | inl x => rw [hy] at hk9; exact hk9
                | inr q2 =>
                  rw [hy] at hk9
                  intro c1 c2 B3 p5 p6 p7 p8 p9 p10 c3 c4
                  refine hk9 c1 c2 B3 p5 p6 p7 p8 p9 p10 c3 ?_
                  rw [← hBm]
                  exact (riwq e1 a2.2).tr c4
      intro r
      induction r with
      | zero =>
        intro pl inn n h Bc Bp o5 o6 o7 o8 o9 o10 hr hh hn hsc hag hea hk9
        refine ST 0 pl inn n h h Bc Bp o5 o6 o7 o8 o9 o10 rfl hr hh hn hsc hag hea ?_
        rw [rd_m] at hk9
        cases hx : rd_i (B 4) ct ii (d + 1) t u pl ab inn n Bp with
        | inl x => rw [hx] at hk9; exact hk9
        | inr q =>
          rw [hx] at hk9
          intro c1 c2 B3 p5 p6 p7 p8 p9 p10 c3 c4
          refine hk9 c1 c2 B3 p5 p6 p7 p8 p9 p10 c3 (fun j hj => ?_)
          obtain ⟨a1, a2, a3, a4, a5, a6⟩ := c4 j hj
          exact ⟨a1, a2, a3.trans (upd_ne (by omega)), a4.trans (upd_ne (by omega)), a5, a6.trans (upd_ne (by omega))⟩
      | succ r ihr =>
        intro pl inn n h Bc Bp o5 o6 o7 o8 o9 o10 hr hh hn hsc hag hea hk9
        refine ST (r + 1) pl inn n h (h + 1) Bc Bp o5 o6 o7 o8 o9 o10 rfl hr hh hn hsc hag hea ?_
        rw [rd_m] at hk9
        cases hx : rd_i (B 4) ct ii (d + 1) t u pl ab inn n Bp with
        | inl x => rw [hx] at hk9; exact hk9
        | inr q =>
          rw [hx] at hk9
          dsimp only at hk9
          intro c1 c2 B3 p5 p6 p7 p8 p9 p10 c3 c4
          obtain ⟨x1, x2, x3, x4, x5, x6⟩ := hea
          obtain ⟨y1, y2, y3, y4, y5, y6⟩ := c4 h (by omega)
          refine ihr (pl + B 4 t) (inn + B 4 u) q.1 h B3 q.2 p5 p6 p7 p8 p9 p10 (by omega) hh c1 c2 c3 ⟨y1.trans x1, y2.trans x2, y3.trans upd_eq, y4.trans upd_eq, y5.trans x5, y6.trans upd_eq⟩ ?_
          cases hy : rd_m (fun p inn n B9 => rd_i (B 4) ct ii (d + 1) t u p ab inn n B9) (B 4 t) (B 4 u) (r + 1) (pl + B 4 t) (inn + B 4 u) q.1 q.2 with
          | inl x => rw [hy] at hk9; exact hk9
          | inr q2 =>
            rw [hy] at hk9
            intro f1 f2 B4 r5 r6 r7 r8 r9 r10 f3 f4
            refine hk9 f1 f2 B4 r5 r6 r7 r8 r9 r10 f3 (fun j hj => ?_)
            obtain ⟨a1, a2, a3, a4, a5, a6⟩ := c4 j (by omega)
            obtain ⟨b1, b2, b3, b4, b5, b6⟩ := f4 j hj
            exact ⟨b1.trans a1, b2.trans a2, b3.trans (a3.trans (upd_ne (by omega))), b4.trans (a4.trans (upd_ne (by omega))), b5.trans a5, b6.trans (a6.trans (upd_ne (by omega)))⟩
  refine ev_aload_0 0 d_mo_readAll_0 ?_
  refine ev_iconst_0 1 d_mo_readAll_1 ?_
  refine mo_puti 2 36 d_mo_readAll_2 lp_181 ?_
  refine ev_aload_0 5 d_mo_readAll_5 ?_
  refine ev_iconst_0 6 d_mo_readAll_6 ?_
  refine mo_puti 7 43 d_mo_readAll_7 lp_237 ?_
  refine ev_aload_0 10 d_mo_readAll_10 ?_
  refine ev_iload_2 11 d_mo_readAll_11 ?_
  refine ev_iload_4 12 d_mo_readAll_12 ?_
  refine ev_iconst_1 14 d_mo_readAll_14 ?_
  refine ev_iload_3 15 d_mo_readAll_15 ?_
  refine ev_iconst_m1 16 d_mo_readAll_16 ?_
  refine ev_iconst_0 17 d_mo_readAll_17 ?_
  refine mo_callv6 18 d_mo_readAll_18 hZ kc_184 (mt_await hZ _ _ _ _ _ _ (vp_in_nI (n := 0) (by decide) (by decide))) (fun F9 B9 h9 => ?_)
  obtain ⟨e1, e2⟩ := h9
  subst F9
  subst B9
  have hsw := mo_aw_sw B 0 (nI tt) (nI uu) 1 at_ (-1) 0
  have hat := mo_aw_at B 0 (nI tt) (nI uu) 1 at_ (-1) 0
  have hT32 := hW.1
  have key : ∀ rr, rd_e (B 4) ct ii 5 (nI tt, nI uu, 1, at_, -1, 0) 0 B = rr → (match rr with | .inl x => rd_e (B 4) ct ii 5 (nI tt, nI uu, 1, at_, -1, 0) 0 B = .inl x | .inr q => q.1 ≤ 200 → mo_sc B q.2 → ∀ (B2 : Nat → Nat → Int32) (q5 q6 q7 q8 q9 q10 : Option Value), mo_ag q.2 B2 → mo_wq (0) (mo_aw B 0 (nI tt) (nI uu) 1 at_ (-1) 0) B2 → EV (mo_π l D cl_A kI kZ tl Z) m_readAll (ev_E (mo_π l D cl_A kI kZ tl Z) 0 0 (mo_qv am kI kZ (fun F1 B1 => ra_q F B (rd_e (B 4) ct ii 5 (nI tt, nI uu, 1, at_, -1, 0) 0 B) F1 B1))) 0 0 21 [some (.ref (am 60)), some (.int (nI ii)), some (.int (nI tt)), some (.int at_), some (.int (nI uu)), q5, q6, q7, q8, q9, q10] [] (mo_W mo_ci am kI kZ (upd (upd F 43 (nI (q.1))) 36 (nI (0))) B2)) := by
    intro rr e
    cases rr with
    | inl m => exact e
    | inr q => exact fun b1 b2 B2 q5 q6 q7 q8 q9 q10 b3 b4 => FIN q.1 q.2 B2 q5 q6 q7 q8 q9 q10 e b1 b2 b3
  refine ev_eq (PR 5 tt uu (-1) (hW.2.1 tt htt).2.2.2 htt huu hf 0 at_ 0 0 0 (mo_aw B 0 (nI tt) (nI uu) 1 at_ (-1) 0) B none none none none none none (by omega) (by omega) (by omega) (mo_sc.rf _) hsw.ag hat ?_) (h3 := by rw [upd_c3643]; rfl)
  have h3 := key _ rfl
  unfold rd_e at h3
  rw [show (nI tt, nI uu, (1 : Int32), at_, (-1 : Int32), (0 : Int32)).1.toNatClampNeg = tt from nI_clamp (by omega), show (nI tt, nI uu, (1 : Int32), at_, (-1 : Int32), (0 : Int32)).2.1.toNatClampNeg = uu from nI_clamp (by omega)] at h3
  unfold rd_e
  rw [show (nI tt, nI uu, (1 : Int32), at_, (-1 : Int32), (0 : Int32)).1.toNatClampNeg = tt from nI_clamp (by omega), show (nI tt, nI uu, (1 : Int32), at_, (-1 : Int32), (0 : Int32)).2.1.toNatClampNeg = uu from nI_clamp (by omega)]
  exact h3
