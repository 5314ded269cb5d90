/-- the faults of writing -/
def wr_cd (c : Int32) : Prop := c = 0 ∨ c = 11 ∨ c = 12
theorem wi_t_sm (B : Nat → Nat → Int32) (it to : Nat) : wr_sm B (wi_t B it to) := wr_sm.up (by omega)
theorem wi_l_ok {F : Nat → Int32} {B : Nat → Nat → Int32} {ii J it to hp k al mn fr : Nat} {tx : Prop} [Decidable tx] (h0 : F 54 = 0) :
    wr_sm B (wi_l F B ii J it to hp k al mn fr tx).2 ∧ wr_cd ((wi_l F B ii J it to hp k al mn fr tx).1 54) ∧ ((wi_l F B ii J it to hp k al mn fr tx).1 54 = 0 → (wi_l F B ii J it to hp k al mn fr tx).1 = F ∧ (wi_l F B ii J it to hp k al mn fr tx).2 50 = upd (B 50) it (nI to) ∧ (∀ a, a ≠ it → (wi_l F B ii J it to hp k al mn fr tx).2 51 a = B 51 a) ∧ (wi_l F B ii J it to hp k al mn fr tx).2 14 J = nI (mo_ut hp al + k) ∧ mo_ut hp al + k ≤ 256 ∧ (wi_l F B ii J it to hp k al mn fr tx).2 16 = B 16 ∧ (wi_l F B ii J it to hp k al mn fr tx).2 51 it = nI (mo_ut hp al)) := by
  unfold wi_l
  split
  · refine ⟨(wi_t_sm B it to).tr (wr_sm.up (by omega)), Or.inr (Or.inl (mo_fl1 h0 _ _)), fun z => ?_⟩
    exact absurd ((mo_fl1 h0 _ _).symm.trans z) (by decide)
  · rename_i hq
    refine ⟨((((wi_t_sm B it to).tr (wr_sm.up (k := 13) (by omega))).tr (wr_sm.up (k := 14) (by omega))).tr (wr_sm.up (k := 51) (by omega))).tr (wr_sm.up (k := 13) (by omega)), Or.inl h0, fun _ => ⟨rfl, rfl, fun a ha => ?_, ?_, by omega, rfl, ?_⟩⟩
    · exact upd_ne ha
    · exact upd_eq
    · exact upd_eq
theorem mo_wh_ok {F : Nat → Int32} {B : Nat → Nat → Int32} {J it fn : Nat} (h0 : F 54 = 0) (h1 : F 52 = nI fn) (h2 : fn ≤ mo_iu (B 16) (17 * J) 16) :
    wr_sm B (mo_wh F B J it).2 ∧ wr_cd ((mo_wh F B J it).1 54) ∧ ((mo_wh F B J it).1 54 = 0 → (mo_wh F B J it).1 52 = nI (fn + 1) ∧ fn + 1 ≤ mo_iu ((mo_wh F B J it).2 16) (17 * J) 16 ∧ (mo_wh F B J it).2 50 = B 50 ∧ (mo_wh F B J it).2 51 = B 51 ∧ (mo_wh F B J it).2 14 = B 14) := by
  unfold mo_wh
  split
  · refine ⟨wr_sm.rf _, Or.inr (Or.inr (mo_fl1 h0 _ _)), fun z => ?_⟩
    exact absurd ((mo_fl1 h0 _ _).symm.trans z) (by decide)
  · rename_i hz
    refine ⟨(((((wr_sm.up (k := 16) (by omega)).tr (wr_sm.up (k := 18) (by omega))).tr (wr_sm.up (k := 17) (by omega))).tr (wr_sm.up (k := 19) (by omega))).tr (wr_sm.up (k := 53) (by omega))).tr (wr_sm.up (k := 13) (by omega)), Or.inl h0, fun _ => ⟨?_, ?_, rfl, rfl, rfl⟩⟩
    · show F 52 + 1 = nI (fn + 1)
      rw [h1]; exact nI_1 fn
    · show fn + 1 ≤ mo_iu (upd (B 16) (17 * J + mo_fh (B 16) (17 * J) 16) 1) (17 * J) 16
      rcases mo_fh_ok (B 16) (17 * J) 16 (by omega) with z | ⟨z1, z2, z3⟩
      · exact absurd z hz
      · rw [(mo_iu_up (B 16) (17 * J) _ z1 z3 16).2 z2]
        omega
/-- what writing an item wants -/
def wr_pre (F : Nat → Int32) (B : Nat → Nat → Int32) (J it NT uu to mn hp : Nat) : Prop := uu < NT ∧ B 44 it = nI uu ∧ wi_to B it = nI to ∧ to ≤ 256 ∧ (¬ B 46 it < 0 → vp_in (B 46 it) 200 ∧ vp_in (B 44 (B 46 it).toNatClampNeg) 32) ∧ B 14 J = nI hp ∧ hp ≤ 256 ∧ (B 2 uu = 6 ∨ B 2 uu = 8 → B 49 it = nI mn ∧ mn ≤ 65535 ∧ to + 4 ≤ 256) ∧ (B 2 uu = 6 → ∃ fr, B 48 it = nI fr ∧ fr ≤ 65535 ∧ (mn = 0 ∨ fr + mn ≤ 256)) ∧ (B 2 uu = 8 → ∃ pu szp alp, B 8 (6 * uu) = nI pu ∧ pu < NT ∧ B 4 pu = nI szp ∧ szp ≤ 96 ∧ B 5 pu = nI alp ∧ 1 ≤ alp ∧ alp ≤ 8) ∧ (¬ B 2 uu ≤ 10 → vp_in (B 48 it) 102 ∧ to + 1 ≤ 256 ∧ (¬ mo_fh (B 16) (17 * J) 16 = 0 → vp_in (F 52) 16)) ∧ (¬ B 2 uu = 6 → ¬ B 2 uu = 8 → B 2 uu ≤ 10 → ¬ B 2 uu = 9 → ∃ pp sz, B 45 it = nI pp ∧ B 4 uu = nI sz ∧ pp + (if B 2 uu = 10 then 1 else sz) ≤ 256 ∧ to + (if B 2 uu = 10 then 1 else sz) ≤ 256)
theorem wr_st {Bs : Nat → Nat → Int32} {NT : Nat} {ct dp sz al : Nat → Nat} {pt : Nat → Nat → Nat} (hW : ty_wf Bs NT ct dp pt) (hD : ty_rd Bs NT ct) (hS : ty_sz Bs NT ct pt sz al) {ii J k : Nat} {F : Nat → Int32} {B : Nat → Nat → Int32} (hk : k < 200) (h : wr_iv Bs NT sz J F B k) (hi : it_k Bs NT sz k) (h0 : F 54 = 0) :
    ∃ uu to mn hp, wr_pre F B J k NT uu to mn hp ∧ wr_sm B (wi_1 F B ii J k uu to).2 ∧ wr_cd ((wi_1 F B ii J k uu to).1 54) ∧ ((wi_1 F B ii J k uu to).1 54 = 0 → wr_iv Bs NT sz J (wi_1 F B ii J k uu to).1 (wi_1 F B ii J k uu to).2 (k + 1)) := by
  obtain ⟨uu, hu, hB, hia, c1, c2, c3, c4⟩ := hi
  have hN := hW.1
  obtain ⟨to, t1, t2, t3⟩ := wr_to hN hk h hu hB hia
  obtain ⟨z1, z2, z3, z4, z5, z6, z7, z8, z9⟩ := hS.1 uu hu
  have h' := h
  obtain ⟨hs, ⟨hp, hp1, hp2⟩, ⟨fn, fn1, fn2⟩, -, -⟩ := h'
  have e2 : B 2 = Bs 2 := hs 2 (by decide) (by decide) (by decide) (by decide) (by decide) (by decide) (by decide) (by decide) (by decide)
  have e4 : B 4 = Bs 4 := hs 4 (by decide) (by decide) (by decide) (by decide) (by decide) (by decide) (by decide) (by decide) (by decide)
  have e5 : B 5 = Bs 5 := hs 5 (by decide) (by decide) (by decide) (by decide) (by decide) (by decide) (by decide) (by decide) (by decide)
  have e8 : B 8 = Bs 8 := hs 8 (by decide) (by decide) (by decide) (by decide) (by decide) (by decide) (by decide) (by decide) (by decide)
  have e44 : B 44 = Bs 44 := hs 44 (by decide) (by decide) (by decide) (by decide) (by decide) (by decide) (by decide) (by decide) (by decide)
  have e45 : B 45 = Bs 45 := hs 45 (by decide) (by decide) (by decide) (by decide) (by decide) (by decide) (by decide) (by decide) (by decide)
  have e48 : B 48 = Bs 48 := hs 48 (by decide) (by decide) (by decide) (by decide) (by decide) (by decide) (by decide) (by decide) (by decide)
  have e49 : B 49 = Bs 49 := hs 49 (by decide) (by decide) (by decide) (by decide) (by decide) (by decide) (by decide) (by decide) (by decide)
  have l8 : Bs 2 uu = 8 → Bs 8 (6 * uu) = nI (pt uu 0) ∧ pt uu 0 < NT := fun z => by
    have hc1 := (hD uu hu).2.1 z
    obtain ⟨q1, q2, q3⟩ := hW.2.2 uu 0 hu (by omega)
    exact ⟨q1, q2⟩
  have hmn : Bs 2 uu = 6 ∨ Bs 2 uu = 8 → B 49 k = nI (B 49 k).toNatClampNeg ∧ (B 49 k).toNatClampNeg ≤ 65535 := by
    intro z
    obtain ⟨m, m1, m2⟩ := c1 z
    rw [e49, m2, nI_clamp (show m < 2 ^ 31 by omega)]
    exact ⟨rfl, m1⟩
  refine ⟨uu, to, (B 49 k).toNatClampNeg, hp, ⟨hu, by rw [e44]; exact hB, t1, by omega, t3, hp2, hp1, ?_, ?_, ?_, ?_, ?_⟩, ?_⟩
  · rw [e2]
    intro z
    have := z6 z
    exact ⟨(hmn z).1, (hmn z).2, by omega⟩
  · rw [e2, e48]
    intro z
    obtain ⟨fr, m, f1, m1, f2, m2, f3⟩ := c2 z
    refine ⟨fr, f2, f1, ?_⟩
    rw [e49, m2, nI_clamp (show m < 2 ^ 31 by omega)]
    exact f3
  · rw [e2, e8, e4, e5]
    intro z
    obtain ⟨q1, q2⟩ := l8 z
    obtain ⟨y1, y2, y3, y4, y5, -⟩ := hS.1 _ q2
    exact ⟨pt uu 0, _, _, q1, q2, y1, y2, y3, y4, y5⟩
  · rw [e2, e48]
    intro z
    have := z7 z
    refine ⟨c3 z, by omega, fun y => ?_⟩
    rcases mo_fh_ok (B 16) (17 * J) 16 (by omega) with x | ⟨x1, x2, x3⟩
    · exact absurd x y
    · have := mo_iu_lt (B 16) (17 * J) _ x1 x3 x2
      rw [fn1]; exact vp_in_nI (by omega) (by decide)
  · rw [e2, e45, e4]
    intro y1 y2 y3 y4
    obtain ⟨pp, p1, p2⟩ := c4 y1 y2 y3 y4
    refine ⟨pp, sz uu, p1, z1, p2, ?_⟩
    split
    · rename_i y; have := z8 y; omega
    · exact t2
  · have fnk : ∃ fn, F 52 = nI fn ∧ fn ≤ mo_iu (B 16) (17 * J) 16 := ⟨fn, fn1, fn2⟩
    have hpk : ∃ hp, hp ≤ 256 ∧ B 14 J = nI hp := ⟨hp, hp1, hp2⟩
    unfold wi_1
    rw [e2]
    split
    · rename_i k6
      obtain ⟨a1, a2, a3⟩ := wi_l_ok (F := F) (B := B) (ii := ii) (J := J) (it := k) (to := to) (hp := (B 14 J).toNatClampNeg) (k := (B 49 k).toNatClampNeg) (al := 1) (mn := (B 49 k).toNatClampNeg) (fr := (B 48 k).toNatClampNeg) (tx := True) h0
      refine ⟨a1, a2, fun z => ?_⟩
      obtain ⟨b1, b2, b3, b4, b5, b6, b7⟩ := a3 z
      exact wr_nx hN h hu hB t2 a1 b2 b3 ⟨_, b5, b4⟩ (by rw [b1, b6]; exact fnk) (fun y => absurd (k6.symm.trans y) (by decide))
    · split
      · rename_i k6 k8
        obtain ⟨q1, q2⟩ := l8 k8
        obtain ⟨y1, y2, y3, y4, y5, -⟩ := hS.1 _ q2
        obtain ⟨m, m1, m2⟩ := c1 (Or.inr k8)
        rw [e8, e4, e5, q1, nI_clamp (show pt uu 0 < 2 ^ 31 by omega), y1, y3, nI_clamp (show sz (pt uu 0) < 2 ^ 31 by omega), nI_clamp (show al (pt uu 0) < 2 ^ 31 by omega), e49, m2, nI_clamp (show m < 2 ^ 31 by omega)]
        obtain ⟨a1, a2, a3⟩ := wi_l_ok (F := F) (B := B) (ii := ii) (J := J) (it := k) (to := to) (hp := (B 14 J).toNatClampNeg) (k := m * sz (pt uu 0)) (al := al (pt uu 0)) (mn := m) (fr := (B 48 k).toNatClampNeg) (tx := False) h0
        refine ⟨a1, a2, fun z => ?_⟩
        obtain ⟨b1, b2, b3, b4, b5, b6, b7⟩ := a3 z
        exact wr_nx hN h hu hB t2 a1 b2 b3 ⟨_, b5, b4⟩ (by rw [b1, b6]; exact fnk) (fun y => ⟨_, m, pt uu 0, m1, q2, b7, m2, q1, b5⟩)
      · rename_i k6 k8
        split
        · rename_i k11
          obtain ⟨a1, a2, a3⟩ := mo_wh_ok (F := F) (B := wi_t B k to) (J := J) (it := k) (fn := fn) h0 fn1 fn2
          refine ⟨(wi_t_sm B k to).tr a1, a2, fun z => ?_⟩
          obtain ⟨b1, b2, b3, b4, b5⟩ := a3 z
          exact wr_nx hN h hu hB t2 ((wi_t_sm B k to).tr a1) (b3.trans rfl) (fun a _ => by rw [b4]; rfl) (by rw [b5]; exact hpk) ⟨_, b1, b2⟩ (fun y => absurd y k8)
        · split
          · exact ⟨wi_t_sm B k to, Or.inl h0, fun _ => wr_nx hN h hu hB t2 (wi_t_sm B k to) rfl (fun a _ => rfl) hpk fnk (fun y => absurd y k8)⟩
          · exact ⟨(wi_t_sm B k to).tr (wr_sm.up (by omega)), Or.inl h0, fun _ => wr_nx hN h hu hB t2 ((wi_t_sm B k to).tr (wr_sm.up (by omega))) rfl (fun a _ => rfl) hpk fnk (fun y => absurd y k8)⟩
/-- m items from k on are written, until there is a fault -/
def wl (ii J : Nat) : Nat → Nat → (Nat → Int32) → (Nat → Nat → Int32) → (Nat → Int32) × (Nat → Nat → Int32)
  | 0, _, F, B => (F, B)
  | m + 1, k, F, B => if F 54 = 0 then wl ii J m (k + 1) (wi_1 F B ii J k (B 44 k).toNatClampNeg (wi_to B k).toNatClampNeg).1 (wi_1 F B ii J k (B 44 k).toNatClampNeg (wi_to B k).toNatClampNeg).2 else (F, B)
