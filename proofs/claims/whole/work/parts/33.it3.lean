/-- what reading leaves -/
def rd_ok (B : Nat → Nat → Int32) (NT : Nat) (sz : Nat → Nat) (n : Nat) (Bp : Nat → Nat → Int32) (q : Nat × (Nat → Nat → Int32)) : Prop := n ≤ q.1 ∧ q.1 ≤ 200 ∧ mo_sc B q.2 ∧ kp n Bp q.2 ∧ ∀ k, k < q.1 → it_k q.2 NT sz k
theorem rd_it {B : Nat → Nat → Int32} {NT : Nat} {ct dp sz al : Nat → Nat} {pt : Nat → Nat → Nat} {R : Nat → Nat → Prop} (hW : ty_wf B NT ct dp pt) (hD : ty_rd B NT ct) (hR : ty_ft B ct pt R) (hS : ty_sz B NT ct pt sz al) (h8 : mo_b8 B) {ii : Nat} (hii : ii < 6) :
    ∀ (d t u : Nat), dp t ≤ d → t < NT → u < NT → R t u → ∀ (p ab inn : Int32) (n : Nat) (Bp : Nat → Nat → Int32) (q : Nat × (Nat → Nat → Int32)), mo_sc B Bp → n ≤ 200 → (∀ k, k < n → it_k Bp NT sz k) → ((n = 0 ∧ ab = -1) ∨ ∃ a i, a < n ∧ ab = nI a ∧ inn = nI i ∧ ps_ok Bp NT sz a u i) → rd_i (B 4) ct ii d t u p ab inn n Bp = .inr q → n < q.1 ∧ q.2 44 n = nI u ∧ rd_ok B NT sz n Bp q := by
  intro d
  induction d with
  | zero => intro t u hd ht; exact absurd (hW.2.1 t ht).2.2.1 (by omega)
  | succ d ihd =>
    intro t u hd ht hu hf p ab inn n Bp q hsc hn hall hpos h
    have PM : ∀ (t2 u2 : Nat), dp t2 ≤ d → t2 < NT → u2 < NT → R t2 u2 → ∀ (r : Nat) (p : Int32) (i n a : Nat) (Bp : Nat → Nat → Int32) (q : Nat × (Nat → Nat → Int32)), mo_sc B Bp → n ≤ 200 → (∀ k, k < n → it_k Bp NT sz k) → a < n → (∀ x, x < r → ps_ok Bp NT sz a u2 (i + x * sz u2)) → rd_m (fun p inn n B9 => rd_i (B 4) ct ii d t2 u2 p (nI a) inn n B9) (B 4 t2) (B 4 u2) r p (nI i) n Bp = .inr q → rd_ok B NT sz n Bp q := by
      intro t2 u2 hd2 ht2 hu2 hf2 r
      induction r with
      | zero =>
        intro p i n a Bp q hsc hn hall ha hps h
        rw [rd_m] at h
        cases h
        exact ⟨Nat.le_refl _, hn, hsc, kp.rf _ _, hall⟩
      | succ r ihr =>
        intro p i n a Bp q hsc hn hall ha hps h
        rw [rd_m] at h
        cases hx : rd_i (B 4) ct ii d t2 u2 p (nI a) (nI i) n Bp with
        | inl z => rw [hx] at h; cases h
        | inr q1 =>
          rw [hx] at h
          dsimp only at h
          have h0 := hps 0 (by omega)
          rw [Nat.zero_mul, Nat.add_zero] at h0
          obtain ⟨a0, -, a1, a2, a3, a4, a5⟩ := ihd t2 u2 hd2 ht2 hu2 hf2 p (nI a) (nI i) n Bp q1 hsc hn hall (Or.inr ⟨a, i, ha, rfl, rfl, h0⟩) hx
          rw [show nI i + B 4 u2 = nI (i + sz u2) by rw [(hS.1 u2 hu2).1, nI_add]] at h
          have e2 : q1.2 2 = Bp 2 := (a3 2 (by omega) (by omega) (by omega) (by omega)).trans (hsc 2 (by omega) (by omega) (by omega) (by omega)).symm
          have e8 : q1.2 8 = Bp 8 := (a3 8 (by omega) (by omega) (by omega) (by omega)).trans (hsc 8 (by omega) (by omega) (by omega) (by omega)).symm
          obtain ⟨b1, b2, b3, b4, b5⟩ := ihr (p + B 4 t2) (i + sz u2) q1.1 a q1.2 q a3 a2 a5 (by omega) (fun x hx => by
            have := (hps (x + 1) (by omega)).tr e2 e8 a4 ha
            rw [Nat.succ_mul] at this
            rw [show i + sz u2 + x * sz u2 = i + (x * sz u2 + sz u2) by omega]
            exact this) h
          exact ⟨by omega, b2, b3, a4.tr b4 (by omega), b5⟩
    rw [rd_i] at h
    cases hx : ri_1 Bp ct ii t u p ab inn n with
    | inl z => rw [hx] at h; cases h
    | inr q1 =>
      rw [hx] at h
      dsimp only at h
      have e2 : Bp 2 = B 2 := hsc 2 (by omega) (by omega) (by omega) (by omega)
      have e3 : Bp 3 = B 3 := hsc 3 (by omega) (by omega) (by omega) (by omega)
      have e4 : Bp 4 = B 4 := hsc 4 (by omega) (by omega) (by omega) (by omega)
      have e5 : Bp 5 = B 5 := hsc 5 (by omega) (by omega) (by omega) (by omega)
      have e7 : Bp 7 = B 7 := hsc 7 (by omega) (by omega) (by omega) (by omega)
      have e8 : Bp 8 = B 8 := hsc 8 (by omega) (by omega) (by omega) (by omega)
      have e9 : Bp 9 = B 9 := hsc 9 (by omega) (by omega) (by omega) (by omega)
      have e13 : Bp 13 = B 13 := hsc 13 (by omega) (by omega) (by omega) (by omega)
      have hWp : ty_wf Bp NT ct dp pt := hW.co e7 e8
      have hDp : ty_rd Bp NT ct := by unfold ty_rd; rw [e5, e2, e4]; exact hD
      have hRp : ty_ft Bp ct pt R := by unfold ty_ft mo_al; rw [e2, e3, e7]; exact hR
      have hSp : ty_sz Bp NT ct pt sz al := by unfold ty_sz; rw [e2, e4, e5, e9]; exact hS
      have h8p : mo_b8 Bp := by unfold mo_b8; rw [e13]; exact h8
      obtain ⟨c1, c2, c3, c4⟩ := ri_1e hWp hDp hRp h8p hii ht hu hf hx
      obtain ⟨g1, g2, g3⟩ := ri_it hWp hDp hRp hSp h8p hii ht hu hf hx hpos
      have hsc1 : mo_sc B q1.1 := hsc.tr c2
      have f2 : q1.1 2 = Bp 2 := (hsc1 2 (by omega) (by omega) (by omega) (by omega)).trans e2.symm
      have f8 : q1.1 8 = Bp 8 := (hsc1 8 (by omega) (by omega) (by omega) (by omega)).trans e8.symm
      have PS : ∀ (len n1 : Nat) (Bp1 : Nat → Nat → Int32), len ≤ q1.2.1 → n + 1 ≤ n1 → n1 ≤ 200 → mo_sc B Bp1 → kp (n + 1) q1.1 Bp1 → (∀ k, k < n1 → it_k Bp1 NT sz k) → rd_s (fun e n B9 => rd_m (fun p inn n B9 => rd_i (B 4) ct ii d e.1.toNatClampNeg e.2.1.toNatClampNeg p e.2.2.2.2.1 inn n B9) (B 4 e.1.toNatClampNeg) (B 4 e.2.1.toNatClampNeg) e.2.2.1.toNatClampNeg e.2.2.2.1 e.2.2.2.2.2 n B9) q1.2.2 len n1 Bp1 = .inr q → rd_ok B NT sz n1 Bp1 q := by
        intro len
        induction len with
        | zero =>
          intro n1 Bp1 hl h1 hn1 hs1 hk1 hall1 h
          rw [rd_s] at h
          cases h
          exact ⟨Nat.le_refl _, hn1, hs1, kp.rf _ _, hall1⟩
        | succ len ihl =>
          intro n1 Bp1 hl h1 hn1 hs1 hk1 hall1 h
          obtain ⟨t2, u2, mn, a1, a2, a3, a4, a5, a6, a7, a8⟩ := c4 len (by omega)
          obtain ⟨u2', mn', i, b1, b2, b3, b4, b5, b6, b7⟩ := g3 len (by omega)
          have hT := hW.1
          obtain rfl : u2' = u2 := n_eq u2' u2 (b1.symm.trans a2)
          obtain rfl : mn' = mn := by have := n_eq (mn' + 1) (mn + 1) (b2.symm.trans a3); omega
          rw [rd_s] at h
          have ex : rd_m (fun p inn n B9 => rd_i (B 4) ct ii d (q1.2.2 len).1.toNatClampNeg (q1.2.2 len).2.1.toNatClampNeg p (q1.2.2 len).2.2.2.2.1 inn n B9) (B 4 (q1.2.2 len).1.toNatClampNeg) (B 4 (q1.2.2 len).2.1.toNatClampNeg) (q1.2.2 len).2.2.1.toNatClampNeg (q1.2.2 len).2.2.2.1 (q1.2.2 len).2.2.2.2.2 n1 Bp1 = rd_m (fun p inn n9 B9 => rd_i (B 4) ct ii d t2 u2' p (nI n) inn n9 B9) (B 4 t2) (B 4 u2') (mn' + 1) (q1.2.2 len).2.2.2.1 (nI i) n1 Bp1 := by
            rw [a1, a2, a3, b3, b4, nI_clamp (show t2 < 2 ^ 31 by omega), nI_clamp (show u2' < 2 ^ 31 by omega), nI_clamp (show mn' + 1 < 2 ^ 31 by omega)]
          rw [ex] at h
          cases hy : rd_m (fun p inn n9 B9 => rd_i (B 4) ct ii d t2 u2' p (nI n) inn n9 B9) (B 4 t2) (B 4 u2') (mn' + 1) (q1.2.2 len).2.2.2.1 (nI i) n1 Bp1 with
          | inl z => rw [hy] at h; cases h
          | inr q2 =>
            rw [hy] at h
            dsimp only at h
            have k2 : Bp1 2 = q1.1 2 := (hs1 2 (by omega) (by omega) (by omega) (by omega)).trans (hsc1 2 (by omega) (by omega) (by omega) (by omega)).symm
            have k8 : Bp1 8 = q1.1 8 := (hs1 8 (by omega) (by omega) (by omega) (by omega)).trans (hsc1 8 (by omega) (by omega) (by omega) (by omega)).symm
            obtain ⟨d1, d2, d3, d4, d5⟩ := PM t2 u2' (by omega) a5 a6 a8 (mn' + 1) _ i n1 n Bp1 q2 hs1 hn1 hall1 (by omega) (fun x hx => (b7 x (by omega)).tr k2 k8 hk1 (by omega)) hy
            obtain ⟨m1, m2, m3, m4, m5⟩ := ihl q2.1 q2.2 (by omega) (by omega) d2 d3 (hk1.tr d4 (by omega)) d5 h
            exact ⟨by omega, m2, m3, d4.tr m4 (by omega), m5⟩
      obtain ⟨z1, z2, z3, z4, z5⟩ := PS q1.2.1 (n + 1) q1.1 (Nat.le_refl _) (Nat.le_refl _) (by omega) hsc1 (kp.rf _ _) (fun k hk => by
        by_cases e : k = n
        · subst e; exact ⟨u, g1⟩
        · exact (hall k (by omega)).tr f2 f8 g2 (by omega)) h
      exact ⟨by omega, (z4 44 (by omega) (by omega) n (by omega)).trans g1.2.1, by omega, z2, z3, g2.tr z4 (by omega), z5⟩
/-- reading a whole value -/
theorem rd_it0 {B : Nat → Nat → Int32} {NT : Nat} {ct dp sz al : Nat → Nat} {pt : Nat → Nat → Nat} {R : Nat → Nat → Prop} (hW : ty_wf B NT ct dp pt) (hD : ty_rd B NT ct) (hR : ty_ft B ct pt R) (hS : ty_sz B NT ct pt sz al) (h8 : mo_b8 B) {ii tt uu : Nat} (hii : ii < 6) (ht : tt < NT) (hu : uu < NT) (hf : R tt uu) {p : Int32} {q : Nat × (Nat → Nat → Int32)} (h : rd_e (B 4) ct ii 5 (nI tt, nI uu, 1, p, -1, 0) 0 B = .inr q) : 0 < q.1 ∧ q.2 44 0 = nI uu ∧ rd_ok B NT sz 0 B q := by
  have hT := hW.1
  unfold rd_e at h
  dsimp only at h
  rw [nI_clamp (show tt < 2 ^ 31 by omega), nI_clamp (show uu < 2 ^ 31 by omega), show (1 : Int32).toNatClampNeg = 1 from rfl, rd_m] at h
  cases hx : rd_i (B 4) ct ii 5 tt uu p (-1) 0 0 B with
  | inl z => rw [hx] at h; cases h
  | inr q1 =>
    rw [hx] at h
    dsimp only at h
    rw [rd_m] at h
    cases h
    exact rd_it hW hD hR hS h8 hii 5 tt uu (hW.2.1 tt ht).2.2.2 ht hu hf p (-1) 0 0 B q1 (mo_sc.rf _) (by omega) (fun k hk => absurd hk (Nat.not_lt_zero k)) (Or.inl ⟨rfl, rfl⟩) hx
