/-! the bytes and heaps that a writing leaves as they were -/
def allb (f : Nat → Int32) : Prop := ∀ y, ∃ b, b < 256 ∧ f y = nI b
theorem allb.zf {f : Nat → Int32} (h : allb f) (b : Nat) : ∀ n, allb (mo_zf f b n) := by
  intro n y
  rw [zf_at]
  split
  · exact ⟨0, by decide, rfl⟩
  · exact h y
theorem allb.pb {f : Nat → Int32} (h : allb f) (b : Nat) (v : Int32) : ∀ n, allb (mo_pb f b v n) := by
  intro n y
  rw [pb_at]
  split
  · exact and255 _
  · exact h y
theorem allb.cp {f : Nat → Int32} (h : allb f) (a b : Nat) : ∀ n, allb (mo_cp f a b n) := by
  intro n
  induction n with
  | zero => exact h
  | succ n ih =>
    intro y
    rw [mo_cp]
    by_cases e : y = b + n
    · rw [e, upd_eq]; exact ih _
    · rw [upd_ne e]; exact ih y
theorem cp_out (f : Nat → Int32) (a b x : Nat) : ∀ n, ¬ (b ≤ x ∧ x < b + n) → mo_cp f a b n x = f x := by
  intro n
  induction n with
  | zero => intro _; rfl
  | succ n ih =>
    intro h
    rw [mo_cp, upd_ne (by omega)]
    exact ih (by omega)
theorem wi_b {F : Nat → Int32} {B : Nat → Nat → Int32} {ii J it uu to : Nat} (h : allb (B 13)) : allb ((wi_1 F B ii J it uu to).2 13) := by
  have hl : ∀ (hp k al mn fr : Nat) (tx : Prop) (dx : Decidable tx), allb ((wi_l F B ii J it to hp k al mn fr tx).2 13) := by
    intro hp k al mn fr tx dx
    unfold wi_l
    split
    · dsimp only
      rw [va_up_ne _ _ (by decide), wt_ne (by decide)]; exact h
    · dsimp only
      rw [va_up_self]
      unfold wi_f
      split
      · exact (((h.zf _ _).pb _ _ _).pb _ _ _).cp _ _ _
      · exact ((h.zf _ _).pb _ _ _).pb _ _ _
  unfold wi_1
  split
  · exact hl _ _ _ _ _ _ _
  split
  · exact hl _ _ _ _ _ _ _
  split
  · unfold mo_wh
    split
    · dsimp only; rw [wt_ne (by decide)]; exact h
    · dsimp only; rw [va_up_self, wt_ne (by decide)]; exact h.pb _ _ _
  split
  · dsimp only; rw [wt_ne (by decide)]; exact h
  · dsimp only; rw [va_up_self]; exact h.cp _ _ _
theorem wl_b {ii J : Nat} : ∀ (m k : Nat) (F : Nat → Int32) (B : Nat → Nat → Int32), allb (B 13) → allb ((wl ii J m k F B).2 13) := by
  intro m
  induction m with
  | zero => intro k F B h; exact h
  | succ m ih =>
    intro k F B h
    rw [wl]
    split
    · exact ih _ _ _ (wi_b h)
    · exact h
theorem wi_out {F : Nat → Int32} {B : Nat → Nat → Int32} {ii J it NT uu to mn hp : Nat} (hN : NT ≤ 32) (h : wr_pre F B J it NT uu to mn hp) : (∀ y, ¬ (256 * J ≤ y ∧ y < 256 * J + 256) → (wi_1 F B ii J it uu to).2 13 y = B 13 y) ∧ ∀ j, j ≠ J → (wi_1 F B ii J it uu to).2 14 j = B 14 j := by
  obtain ⟨p1, p2, p3, p4, p5, p6, p7, p8, p9, p10, p11, p12⟩ := h
  have hl : ∀ (k al m9 fr : Nat) (tx : Prop) (dx : Decidable tx), to + 4 ≤ 256 → (tx → m9 ≤ k) → (∀ y, ¬ (256 * J ≤ y ∧ y < 256 * J + 256) → (wi_l F B ii J it to hp k al m9 fr tx).2 13 y = B 13 y) ∧ ∀ j, j ≠ J → (wi_l F B ii J it to hp k al m9 fr tx).2 14 j = B 14 j := by
    intro k al m9 fr tx dx h4 hm
    by_cases c : 256 < mo_ut hp al + k
    · rw [wl_no c]
      dsimp only
      exact ⟨fun y _ => by rw [va_up_ne _ _ (by decide), wt_ne (by decide)], fun j _ => by rw [va_up_ne _ _ (by decide), wt_ne (by decide)]⟩
    · obtain ⟨-, w13, w14, -⟩ := wl_ok (F := F) (B := B) (ii := ii) (J := J) (it := it) (to := to) (mn := m9) (fr := fr) (tx := tx) (dx := dx) (Nat.le_of_not_lt c)
      rw [w13, w14]
      refine ⟨fun y hy => ?_, fun j hj => upd_ne hj⟩
      unfold wi_f
      by_cases ctx : tx
      · rw [if_pos ctx, cp_out _ _ _ _ _ (by have := hm ctx; omega)]
        exact pc_out h4 (Nat.le_of_not_lt c) hy
      · rw [if_neg ctx]
        exact pc_out h4 (Nat.le_of_not_lt c) hy
  by_cases k6 : B 2 uu = 6
  · obtain ⟨m1, m2, m3⟩ := p8 (Or.inl k6)
    obtain ⟨fr, f1, f2, f3⟩ := p9 k6
    rw [wi_6 k6 p6 m1 f1 p7 m2 f2]
    exact hl _ _ _ _ _ _ m3 (fun _ => Nat.le_refl _)
  by_cases k8 : B 2 uu = 8
  · obtain ⟨m1, m2, m3⟩ := p8 (Or.inr k8)
    obtain ⟨pu, szp, alp, q1, q2, q3, q4, q5, q6, q7⟩ := p10 k8
    rw [wi_8 k8 p6 m1 q1 q3 q5 p7 m2 (by omega) q4 q7]
    exact hl _ _ _ _ _ _ m3 (fun z => z.elim)
  by_cases k10 : B 2 uu ≤ 10
  · by_cases k9 : B 2 uu = 9
    · rw [wi_9 k9]
      exact ⟨fun y _ => by dsimp only; rw [wt_ne (by decide)], fun j _ => by dsimp only; rw [wt_ne (by decide)]⟩
    · obtain ⟨pp, sz, s1, s2, s3, s4⟩ := p12 k6 k8 k10 k9
      have e1 : wi_1 F B ii J it uu to = (F, va_up (wi_t B it to) 13 (mo_cp (B 13) (256 * ii + (B 45 it).toNatClampNeg) (256 * J + to) (if B 2 uu = 10 then 1 else (B 4 uu).toNatClampNeg))) := by
        rw [wi_1, if_neg k6, if_neg k8, if_neg (fun z => z k10), if_neg k9]
      rw [e1]
      dsimp only
      refine ⟨fun y hy => ?_, fun j _ => by rw [va_up_ne _ _ (by decide), wt_ne (by decide)]⟩
      rw [va_up_self, cp_out]
      have e2 : (if B 2 uu = 10 then 1 else (B 4 uu).toNatClampNeg) = (if B 2 uu = 10 then 1 else sz) := by
        by_cases c : B 2 uu = 10
        · rw [if_pos c, if_pos c]
        · rw [if_neg c] at s3 s4 ⊢
          rw [if_neg c, s2, nI_clamp (by omega)]
      rw [e2]
      omega
  · obtain ⟨-, t1, -⟩ := p11 k10
    rw [wi_11 k10]
    have w : ∀ f, f ≠ 50 → wi_t B it to f = B f := fun f hf => wt_ne hf
    by_cases h0 : mo_fh (wi_t B it to 16) (17 * J) 16 = 0
    · rw [wh_0 h0]
      exact ⟨fun y _ => by dsimp only; rw [wt_ne (by decide)], fun j _ => by dsimp only; rw [wt_ne (by decide)]⟩
    · obtain ⟨-, -, -, -, -, a6, a7⟩ := wh_f (F := F) (B := wi_t B it to) (J := J) (it := it) rfl h0
      rw [a6, a7 14 (by decide) (by decide) (by decide) (by decide) (by decide) (by decide)]
      refine ⟨fun y hy => ?_, fun j _ => by rw [wt_ne (by decide)]⟩
      rw [wt_50, nI_clamp (by omega), pb_at, if_neg (by omega), wt_ne (by decide)]
theorem wl_out {Bs : Nat → Nat → Int32} {NT n i J : Nat} {ct dp sz al : Nat → Nat} {pt : Nat → Nat → Nat} (hW : ty_wf Bs NT ct dp pt) (hD : ty_rd Bs NT ct) (hS : ty_sz Bs NT ct pt sz al) (hn : n ≤ 200) (hit : ∀ k, k < n → it_k Bs NT sz k) : ∀ (m k : Nat) (F : Nat → Int32) (B : Nat → Nat → Int32), k + m = n → F 54 = 0 → wr_iv Bs NT sz J F B k → (∀ y, ¬ (256 * J ≤ y ∧ y < 256 * J + 256) → (wl i J m k F B).2 13 y = B 13 y) ∧ (∀ j, j ≠ J → (wl i J m k F B).2 14 j = B 14 j) ∧ ((wl i J m k F B).1 54 = 0 → ∃ hp, hp ≤ 256 ∧ (wl i J m k F B).2 14 J = nI hp) ∧ wr_cd ((wl i J m k F B).1 54) := by
  intro m
  induction m with
  | zero => intro k F B e h0 h; exact ⟨fun _ _ => rfl, fun _ _ => rfl, fun _ => h.2.1, Or.inl h0⟩
  | succ m ih =>
    intro k F B e h0 h
    obtain ⟨uu, to, mn, hp, w1, -, w3, w4⟩ := wr_st hW hD hS (ii := i) (by omega) h (hit k (by omega)) h0
    have hN := hW.1
    obtain ⟨o1, o2⟩ := wi_out (ii := i) hN w1
    have e44 : (B 44 k).toNatClampNeg = uu := by rw [w1.2.1, nI_clamp (by have := w1.1; omega)]
    have eto : (wi_to B k).toNatClampNeg = to := by rw [w1.2.2.1, nI_clamp (by have := w1.2.2.2.1; omega)]
    rw [wl, if_pos h0, e44, eto]
    by_cases h1 : (wi_1 F B i J k uu to).1 54 = 0
    · obtain ⟨g1, g2, g3, g4⟩ := ih (k + 1) _ _ (by omega) h1 (w4 h1)
      exact ⟨fun y hy => (g1 y hy).trans (o1 y hy), fun j hj => (g2 j hj).trans (o2 j hj), g3, g4⟩
    · rw [wl_n0 _ _ _ _ h1]
      exact ⟨o1, o2, fun z => absurd z h1, w3⟩
