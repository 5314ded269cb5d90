/-! what a passing keeps -/
theorem wi_l_sm (F : Nat → Int32) (B : Nat → Nat → Int32) (ii J it to hp k al mn fr : Nat) (tx : Prop) [Decidable tx] : wr_sm B (wi_l F B ii J it to hp k al mn fr tx).2 := by
  unfold wi_l
  split
  · exact (wi_t_sm B it to).tr (wr_sm.up (by omega))
  · exact ((((wi_t_sm B it to).tr (wr_sm.up (k := 13) (by omega))).tr (wr_sm.up (k := 14) (by omega))).tr (wr_sm.up (k := 51) (by omega))).tr (wr_sm.up (k := 13) (by omega))
theorem mo_wh_sm (F : Nat → Int32) (B : Nat → Nat → Int32) (J it : Nat) : wr_sm B (mo_wh F B J it).2 := by
  unfold mo_wh
  split
  · exact wr_sm.rf _
  · exact (((((wr_sm.up (k := 16) (by omega)).tr (wr_sm.up (k := 18) (by omega))).tr (wr_sm.up (k := 17) (by omega))).tr (wr_sm.up (k := 19) (by omega))).tr (wr_sm.up (k := 53) (by omega))).tr (wr_sm.up (k := 13) (by omega))
theorem wi_sm (F : Nat → Int32) (B : Nat → Nat → Int32) (ii J it uu to : Nat) : wr_sm B (wi_1 F B ii J it uu to).2 := by
  unfold wi_1
  split
  · exact wi_l_sm _ _ _ _ _ _ _ _ _ _ _ _
  split
  · exact wi_l_sm _ _ _ _ _ _ _ _ _ _ _ _
  split
  · exact (wi_t_sm B it to).tr (mo_wh_sm _ _ _ _)
  split
  · exact wi_t_sm B it to
  · exact (wi_t_sm B it to).tr (wr_sm.up (by omega))
/-- the handles that writing has made so far -/
def fr_ok (J : Nat) (F : Nat → Int32) (B : Nat → Nat → Int32) : Prop := ∃ fn, F 52 = nI fn ∧ fn ≤ mo_iu (B 16) (17 * J) 16 ∧ ∀ k, k < fn → ∃ h, 1 ≤ h ∧ h ≤ 16 ∧ B 53 k = nI (17 * J + h)
theorem fr_ok.co {J : Nat} {F F1 : Nat → Int32} {B B1 : Nat → Nat → Int32} (h : fr_ok J F B) (e1 : F1 52 = F 52) (e2 : B1 16 = B 16) (e3 : B1 53 = B 53) : fr_ok J F1 B1 := by
  unfold fr_ok
  rw [e1, e2, e3]
  exact h
theorem wi_fr {F : Nat → Int32} {B : Nat → Nat → Int32} {ii J it uu to : Nat} (h : fr_ok J F B) : fr_ok J (wi_1 F B ii J it uu to).1 (wi_1 F B ii J it uu to).2 := by
  unfold wi_1
  have wl' : ∀ (hp k al mn fr : Nat) (tx : Prop) [Decidable tx], fr_ok J (wi_l F B ii J it to hp k al mn fr tx).1 (wi_l F B ii J it to hp k al mn fr tx).2 := by
    intro hp k al mn fr tx _
    unfold wi_l
    split
    · exact h.co (mo_flk F _ _ (by decide) (by decide)) rfl rfl
    · exact h.co rfl rfl rfl
  split
  · exact wl' ..
  split
  · exact wl' ..
  split
  · have h1 : fr_ok J F (wi_t B it to) := h.co rfl rfl rfl
    unfold mo_wh
    split
    · exact h1.co (mo_flk F _ _ (by decide) (by decide)) rfl rfl
    · rename_i hz
      obtain ⟨fn, f1, f2, f3⟩ := h1
      rcases mo_fh_ok (wi_t B it to 16) (17 * J) 16 (by omega) with z | ⟨z1, z2, z3⟩
      · exact absurd z hz
      · have hle := mo_iu_le (wi_t B it to 16) (17 * J) 16
        refine ⟨fn + 1, ?_, ?_, fun k hk => ?_⟩
        · show F 52 + 1 = nI (fn + 1)
          rw [f1]; exact nI_1 fn
        · show fn + 1 ≤ mo_iu (upd (wi_t B it to 16) (17 * J + mo_fh (wi_t B it to 16) (17 * J) 16) 1) (17 * J) 16
          rw [(mo_iu_up (wi_t B it to 16) (17 * J) _ z1 z3 16).2 z2]
          omega
        · show ∃ h, 1 ≤ h ∧ h ≤ 16 ∧ upd (wi_t B it to 53) (F 52).toNatClampNeg (nI (17 * J + mo_fh (wi_t B it to 16) (17 * J) 16)) k = nI (17 * J + h)
          rw [f1, nI_clamp (show fn < 2 ^ 31 by omega)]
          by_cases e : k = fn
          · exact ⟨_, z1, z2, by rw [e, upd_eq]⟩
          · rw [upd_ne e]; exact f3 k (by omega)
  split
  · exact h.co rfl rfl rfl
  · exact h.co rfl rfl rfl
theorem wl_kp (ii J : Nat) : ∀ (m k : Nat) (F : Nat → Int32) (B : Nat → Nat → Int32), wr_sm B (wl ii J m k F B).2 ∧ (∀ f, f ≠ 52 → f ≠ 54 → f ≠ 55 → (wl ii J m k F B).1 f = F f) ∧ (fr_ok J F B → fr_ok J (wl ii J m k F B).1 (wl ii J m k F B).2) := by
  intro m
  induction m with
  | zero => intro k F B; exact ⟨wr_sm.rf _, fun _ _ _ _ => rfl, fun h => h⟩
  | succ m ih =>
    intro k F B
    rw [wl]
    split
    · obtain ⟨a, b, c⟩ := ih (k + 1) (wi_1 F B ii J k (B 44 k).toNatClampNeg (wi_to B k).toNatClampNeg).1 (wi_1 F B ii J k (B 44 k).toNatClampNeg (wi_to B k).toNatClampNeg).2
      exact ⟨(wi_sm _ _ _ _ _ _ _).tr a, fun f h1 h2 h3 => (b f h1 h2 h3).trans (wi_F F B ii J k _ _ h1 h2 h3), fun h => c (wi_fr h)⟩
    · exact ⟨wr_sm.rf _, fun _ _ _ _ => rfl, fun h => h⟩
/-- the tables that a passing doesn't touch -/
def ps_un (k : Nat) : Prop := k < 13 ∨ k = 15 ∨ (21 < k ∧ k < 37) ∨ k = 43 ∨ k = 52 ∨ 53 < k
theorem pe_un {z : Prop} [Decidable z] {B : Nat → Nat → Int32} {m k : Nat} (h : k ≠ 16) (h1 : k ≠ 20) (h2 : k ≠ 21) : pe_B z B m k = B k := by
  rw [pe_B, va_up_ne _ _ h2, va_up_ne _ _ h1, va_up_ne _ _ h]
theorem ps_kp {F : Nat → Int32} {B : Nat → Nat → Int32} {ii J hp sz al : Nat} {R : rd_R} {x : Int32} {F1 : Nat → Int32} {B1 : Nat → Nat → Int32} (hs : ∀ q, R = .inr q → mo_sc B q.2) (h : ps_q F B ii J hp sz al R x F1 B1) :
    (∀ k, k ≠ 36 → k ≠ 43 → k ≠ 52 → k ≠ 54 → k ≠ 55 → F1 k = F k) ∧ (∀ k, ps_un k → B1 k = B k) ∧ ∃ fn, F1 52 = nI fn ∧ fn ≤ 16 ∧ ∀ k, k < fn → ∃ h, 1 ≤ h ∧ h ≤ 16 ∧ B1 53 k = nI (17 * J + h) := by
  cases R with
  | inl r =>
    obtain ⟨F2, B2, a1, a2, a3, a4, e1, e2⟩ := h
    subst e1
    subst e2
    refine ⟨fun k h1 h2 h3 h4 h5 => ?_, fun k hk => ?_, 0, ?_, by omega, fun k hk => absurd hk (Nat.not_lt_zero k)⟩
    · rw [a3 k h1 h2 h4 h5, ps_F, upd_ne h3, upd_ne h4]
    · unfold ps_un at hk
      rw [pe_un (by omega) (by omega) (by omega)]
      exact a4 k (by omega) (by omega) (by omega) (by omega)
    · exact (a3 52 (by decide) (by decide) (by decide) (by decide)).trans rfl
  | inr q =>
    have hsq := hs q rfl
    obtain ⟨Bs, hag, h⟩ := h
    have hF : ∀ k, k ≠ 36 → k ≠ 43 → k ≠ 52 → k ≠ 54 → k ≠ 55 → upd (upd (ps_F F) 43 (nI q.1)) 36 (nI 0) k = F k := fun k h1 h2 h3 h4 h5 => by rw [upd_ne h1, upd_ne h2, ps_F, upd_ne h3, upd_ne h4]
    have hB : ∀ k, ps_un k → Bs k = B k := fun k hk => by
      unfold ps_un at hk
      exact (hag k (by omega)).trans (hsq k (by omega) (by omega) (by omega) (by omega))
    rcases h with ⟨-, e1, e2⟩ | ⟨-, -, e1, -, e2⟩
    · subst e2
      refine ⟨fun k h1 h2 h3 h4 h5 => ?_, fun k hk => ?_, 0, ?_, by omega, fun k hk => absurd hk (Nat.not_lt_zero k)⟩
      · rw [e1, mo_flk _ _ _ h4 h5, hF k h1 h2 h3 h4 h5]
      · have hk' := hk
        unfold ps_un at hk'
        rw [pe_un (by omega) (by omega) (by omega), va_up_ne _ _ (by omega), hB k hk]
      · rw [e1, mo_flk _ _ _ (by decide) (by decide)]; rfl
    · obtain ⟨a, b, c⟩ := wl_kp ii J q.1 0 (upd (upd (ps_F F) 43 (nI q.1)) 36 (nI 0)) (va_up (va_up (va_up Bs 13 (mo_zf (Bs 13) (256 * J + mo_ut hp al) sz)) 14 (upd (Bs 14) J (nI (mo_ut hp al + sz)))) 50 (upd (Bs 50) 0 (nI (mo_ut hp al))))
      obtain ⟨fn, f1, f2, f3⟩ := c ⟨0, rfl, Nat.zero_le _, fun k hk => absurd hk (Nat.not_lt_zero k)⟩
      subst e2
      have hle := mo_iu_le ((wl ii J q.1 0 (upd (upd (ps_F F) 43 (nI q.1)) 36 (nI 0)) (va_up (va_up (va_up Bs 13 (mo_zf (Bs 13) (256 * J + mo_ut hp al) sz)) 14 (upd (Bs 14) J (nI (mo_ut hp al + sz)))) 50 (upd (Bs 50) 0 (nI (mo_ut hp al))))).2 16) (17 * J) 16
      refine ⟨fun k h1 h2 h3 h4 h5 => ?_, fun k hk => ?_, fn, ?_, by omega, fun k hk => ?_⟩
      · rw [e1, b k h3 h4 h5, hF k h1 h2 h3 h4 h5]
      · have hk' := hk
        unfold ps_un at hk'
        rw [pe_un (by omega) (by omega) (by omega), a k (by omega) (by omega) (by omega) (by omega) (by omega) (by omega) (by omega) (by omega) (by omega), va_up_ne _ _ (by omega), va_up_ne _ _ (by omega), va_up_ne _ _ (by omega), hB k hk]
      · rw [e1]; exact f1
      · rw [pe_un (by decide) (by decide) (by decide)]; exact f3 k hk
/-- t fits u -/
def ft_R (B : Nat → Nat → Int32) (NT : Nat) (ct dp : Nat → Nat) (pt : Nat → Nat → Nat) (t u : Nat) : Prop := t < NT ∧ u < NT ∧ ∃ d n m, dp t ≤ d ∧ nb_r B ct pt d t u n = .inr m
theorem nb_s_in {f : Nat → Nat → Nat → Nat ⊕ Nat} {pt : Nat → Nat → Nat} {t u : Nat} : ∀ (r k n m : Nat), nb_s f pt t u r k n = .inr m → ∀ j, k ≤ j → j < k + r → ∃ n' m', f (pt t j) (pt u j) n' = .inr m' := by
  intro r
  induction r with
  | zero => intro k n m h j h1 h2; omega
  | succ r ih =>
    intro k n m h j h1 h2
    rw [nb_s] at h
    cases hx : f (pt t k) (pt u k) n with
    | inl z => rw [hx] at h; cases h
    | inr n' =>
      rw [hx] at h
      by_cases e : j = k
      · subst e; exact ⟨n, n', hx⟩
      · exact ih (k + 1) n' m h j (by omega) (by omega)
theorem nb_r_l {B : Nat → Nat → Int32} {ct : Nat → Nat} {pt : Nat → Nat → Nat} : ∀ (d t u n m : Nat), nb_r B ct pt d t u n = .inl m → 1 ≤ m := by
  intro d
  induction d with
  | zero => intro t u n m h; cases h
  | succ d ih =>
    intro t u n m h
    rw [nb_r] at h
    split at h
    · have PS : ∀ (r k n : Nat), nb_s (nb_r B ct pt d) pt t u r k n = .inl m → 1 ≤ m := by
        intro r
        induction r with
        | zero => intro k n h; cases h
        | succ r ihr =>
          intro k n h
          rw [nb_s] at h
          cases hx : nb_r B ct pt d (pt t k) (pt u k) n with
          | inl z => rw [hx] at h; cases h; exact ih _ _ _ _ hx
          | inr n' => rw [hx] at h; exact ihr _ _ h
      exact PS _ _ _ h
    · cases h; omega
theorem ft_ok {B : Nat → Nat → Int32} {NT : Nat} {ct dp : Nat → Nat} {pt : Nat → Nat → Nat} (hW : ty_wf B NT ct dp pt) : ty_ft B ct pt (ft_R B NT ct dp pt) := by
  rintro t u ⟨ht, hu, d, n, m, hd, h⟩
  obtain ⟨t1, t2, t3, t4⟩ := hW.2.1 t ht
  obtain ⟨d, rfl⟩ : ∃ d', d = d' + 1 := ⟨d - 1, by omega⟩
  rw [nb_r] at h
  split at h
  · rename_i hal
    refine ⟨hal, fun k hk => ?_⟩
    have hct : ty_sh ct t u ≤ ct t := by unfold ty_sh; split <;> omega
    have hcu : ty_sh ct t u ≤ ct u := by unfold ty_sh; split <;> omega
    obtain ⟨p1, p2, p3⟩ := hW.2.2 t k ht (by omega)
    obtain ⟨q1, q2, q3⟩ := hW.2.2 u k hu (by omega)
    obtain ⟨n', m', h'⟩ := nb_s_in _ _ _ _ h k (by omega) (by omega)
    exact ⟨p2, q2, d, n', m', by omega, h'⟩
  · cases h
theorem ft_of {B : Nat → Nat → Int32} {NT : Nat} {ct dp : Nat → Nat} {pt : Nat → Nat → Nat} (hW : ty_wf B NT ct dp pt) {t u : Nat} (ht : t < NT) (hu : u < NT) (h : nb_v (nb_r B ct pt 5 t u 0) = 0) : ft_R B NT ct dp pt t u := by
  refine ⟨ht, hu, 5, 0, ?_⟩
  cases hx : nb_r B ct pt 5 t u 0 with
  | inl m =>
    rw [hx] at h
    have := nb_r_l _ _ _ _ _ hx
    exact absurd (show m = 0 from h) (by omega)
  | inr m => exact ⟨m, (hW.2.1 t ht).2.2.2, rfl⟩
