/-! a new type keeps the relation -/
theorem tp_at (f g : Nat → Int32) (t x : Nat) : ∀ n, mo_tp f g t n x = if 6 * t ≤ x ∧ x < 6 * t + n then g (x - 6 * t) else f x := by
  intro n
  induction n with
  | zero => rw [if_neg (by omega)]; rfl
  | succ n ih =>
    rw [mo_tp]
    by_cases e : x = 6 * t + n
    · subst e; rw [upd_eq, if_pos (by omega), show 6 * t + n - 6 * t = n by omega]
    · rw [upd_ne e, ih]
      by_cases c : 6 * t ≤ x ∧ x < 6 * t + n
      · rw [if_pos c, if_pos (by omega)]
      · rw [if_neg c, if_neg (by omega)]
theorem la_osA (k : Int32) (LA : Nat) (dr al sz : Nat → Nat) (f : Nat → Int32) {h : Nat} : ∀ n, h < n → la_os k LA dr al sz f n h = nI (la_o k LA (la_en k LA dr al sz h) (al (dr h))) := by
  intro n
  induction n with
  | zero => intro z; omega
  | succ n ih =>
    intro hn
    rw [la_os]
    by_cases e : h = n
    · subst e; rw [upd_eq]
    · rw [upd_ne e]; exact ih (by omega)
theorem lb_s_c {f g : Nat → Bool} {pt pt' : Nat → Nat → Nat} {t : Nat} : ∀ r k, (∀ j, k ≤ j → j < k + r → f (pt' t j) = g (pt t j)) → lb_s f pt' t r k = lb_s g pt t r k := by
  intro r
  induction r with
  | zero => intro k _; rfl
  | succ r ih =>
    intro k h
    rw [lb_s, lb_s, h k (Nat.le_refl _) (by omega), ih (k + 1) (fun j h1 h2 => h j (by omega) (by omega))]
theorem lb_s_x {f : Nat → Bool} {pt : Nat → Nat → Nat} {t : Nat} : ∀ r k, lb_s f pt t r k = true ↔ ∃ j, k ≤ j ∧ j < k + r ∧ f (pt t j) = true := by
  intro r
  induction r with
  | zero => intro k; exact ⟨fun z => by rw [lb_s] at z; exact absurd z (by decide), fun ⟨j, h1, h2, _⟩ => by omega⟩
  | succ r ih =>
    intro k
    rw [lb_s]
    by_cases c : f (pt t k) = true
    · rw [if_pos c]; exact ⟨fun _ => ⟨k, Nat.le_refl _, by omega, c⟩, fun _ => rfl⟩
    · rw [if_neg c, ih]
      constructor
      · rintro ⟨j, h1, h2, h3⟩; exact ⟨j, by omega, by omega, h3⟩
      · rintro ⟨j, h1, h2, h3⟩
        refine ⟨j, ?_, by omega, h3⟩
        by_cases e : j = k
        · subst e; exact absurd h3 c
        · omega
theorem lb_in {B B' : Nat → Nat → Int32} {NT : Nat} {ct ct' dp : Nat → Nat} {pt pt' : Nat → Nat → Nat} (hW : ty_wf B NT ct dp pt) (e2 : ∀ t, t < NT → B' 2 t = B 2 t) (ec : ∀ t, t < NT → ct' t = ct t) (ep : ∀ t, t < NT → pt' t = pt t) : ∀ d t, t < NT → lb_r B' ct' pt' d t = lb_r B ct pt d t := by
  intro d
  induction d with
  | zero => intro t _; rfl
  | succ d ih =>
    intro t ht
    rw [lb_r, lb_r, e2 t ht, ec t ht, lb_s_c (g := lb_r B ct pt d) (pt := pt) (ct t) 0 (fun j _ hj => by rw [ep t ht]; exact ih _ (hW.2.2 t j ht (by omega)).2.1)]
theorem lb_dp {B : Nat → Nat → Int32} {NT : Nat} {ct dp : Nat → Nat} {pt : Nat → Nat → Nat} (hW : ty_wf B NT ct dp pt) : ∀ d t, t < NT → dp t ≤ d → lb_r B ct pt (d + 1) t = lb_r B ct pt d t := by
  intro d
  induction d with
  | zero => intro t ht h; have := (hW.2.1 t ht).2.2.1; omega
  | succ d ih =>
    intro t ht h
    rw [lb_r, lb_r, lb_s_c (g := lb_r B ct pt d) (pt := pt) (ct t) 0 (fun j _ hj => ih _ (hW.2.2 t j ht (by omega)).2.1 (by have := (hW.2.2 t j ht (by omega)).2.2; omega))]
theorem bo_at (kd : Nat) (bz : Nat → Int32) (dr : Nat → Nat) : ∀ n, ((kd = 12 ∨ ∃ h, h < n ∧ ¬ bz (dr h) = 0) → bo_l kd bz dr n = 1) ∧ ((¬ (kd = 12 ∨ ∃ h, h < n ∧ ¬ bz (dr h) = 0)) → bo_l kd bz dr n = 0) := by
  intro n
  induction n with
  | zero =>
    rw [bo_l]
    refine ⟨fun h => ?_, fun h => ?_⟩
    · rcases h with h | ⟨h, h1, _⟩
      · rw [if_pos h]
      · omega
    · rw [if_neg (fun z => h (Or.inl z))]
  | succ n ih =>
    rw [bo_l]
    refine ⟨fun h => ?_, fun h => ?_⟩
    · refine if_pos ?_
      rcases h with h | ⟨h, h1, h2⟩
      · left; rw [ih.1 (Or.inl h)]; decide
      · by_cases e : h = n
        · subst e; exact Or.inr h2
        · left; rw [ih.1 (Or.inr ⟨h, by omega, h2⟩)]; decide
    · refine if_neg (fun z => ?_)
      rcases z with z | z
      · exact z (ih.2 (fun y => h (y.elim Or.inl (fun ⟨q, q1, q2⟩ => Or.inr ⟨q, by omega, q2⟩))))
      · exact h (Or.inr ⟨n, by omega, z⟩)
theorem la_dpx (dr dp : Nat → Nat) {h : Nat} : ∀ n, h < n → dp (dr h) + 1 ≤ la_dp dr dp n := by
  intro n
  induction n with
  | zero => intro z; omega
  | succ n ih =>
    intro hn
    rw [la_dp]
    by_cases e : h = n
    · subst e; split <;> omega
    · have := ih (by omega)
      split <;> omega
theorem la_enx {k : Int32} {LA : Nat} {dr al sz : Nat → Nat} {nd : Nat} (hk : k = 9 ∨ k = 10) (ha : ∀ k, k < nd → al (dr k) = 1 ∨ al (dr k) = 2 ∨ al (dr k) = 4 ∨ al (dr k) = 8) {h : Nat} : ∀ n, n ≤ nd → h < n → la_o k LA (la_en k LA dr al sz h) (al (dr h)) + sz (dr h) ≤ la_en k LA dr al sz n := by
  intro n
  induction n with
  | zero => intro _ z; omega
  | succ n ih =>
    intro hn hh
    have m := la_enm (k := k) (LA := LA) (dr := dr) (al := al) (sz := sz) (n := n) (ha n (by omega))
    rw [← m]
    by_cases e : h = n
    · subst e; split <;> omega
    · have := ih (by omega) (by omega)
      split <;> omega
def zN (kd : Nat) : Nat := if kd = 2 then 2 else if kd = 3 ∨ kd = 5 ∨ kd = 6 ∨ kd = 8 then 4 else if kd = 4 then 8 else 1
def aN (kd : Nat) : Nat := if kd = 6 ∨ kd = 8 then 2 else zN kd
theorem zN_e : ∀ kd, kd < 13 → mo_psz (nI kd) = nI (zN kd) := by decide +kernel
theorem aN_e : ∀ kd, kd < 13 → la_a0 (nI kd) = nI (aN kd) := by decide +kernel
theorem zN_b : ∀ kd, kd < 13 → 1 ≤ zN kd ∧ zN kd ≤ 8 ∧ (aN kd = 1 ∨ aN kd = 2 ∨ aN kd = 4 ∨ aN kd = 8) ∧ (kd = 5 → zN kd = 4) ∧ ((kd = 6 ∨ kd = 8) → zN kd = 4) ∧ (10 < kd → zN kd = 1) ∧ ((kd = 0 ∨ kd = 7) → zN kd = 1) := by decide +kernel
theorem kd_e {kd a : Nat} (h : kd < 13) (ha : a < 13) : nI kd = nI a ↔ kd = a := ⟨fun z => n_eq kd a z, fun z => by rw [z]⟩
theorem kd_e9 {kd : Nat} (h : kd < 13) : (nI kd = 9 ∨ nI kd = 10) ↔ (kd = 9 ∨ kd = 10) := by
  have := kd_e (a := 9) h (by omega)
  have := kd_e (a := 10) h (by omega)
  exact ⟨fun z => z.elim (fun y => Or.inl (n_eq kd 9 y)) (fun y => Or.inr (n_eq kd 10 y)), fun z => z.elim (fun y => Or.inl (by rw [y]; rfl)) (fun y => Or.inr (by rw [y]; rfl))⟩
def tZ (kd : Nat) (dr al sz : Nat → Nat) (nd : Nat) : Nat := if kd = 9 ∨ kd = 10 then mo_ut (la_en (nI kd) (la_al dr al nd) dr al sz nd) (la_al dr al nd) else zN kd
def tA (kd : Nat) (dr al : Nat → Nat) (nd : Nat) : Nat := if kd = 9 ∨ kd = 10 then la_al dr al nd else aN kd
theorem tZ_e {kd : Nat} (h : kd < 13) (dr al sz : Nat → Nat) (nd : Nat) : la_Z kd (la_al dr al nd) (la_en (nI kd) (la_al dr al nd) dr al sz nd) = nI (tZ kd dr al sz nd) := by
  unfold la_Z tZ
  by_cases c : kd = 9 ∨ kd = 10
  · rw [if_pos ((kd_e9 h).mpr c), if_pos c]
  · rw [if_neg (fun z => c ((kd_e9 h).mp z)), if_neg c, zN_e kd h]
theorem tA_e {kd : Nat} (h : kd < 13) (dr al : Nat → Nat) (nd : Nat) : la_A kd (la_al dr al nd) = nI (tA kd dr al nd) := by
  unfold la_A tA
  by_cases c : kd = 9 ∨ kd = 10
  · rw [if_pos ((kd_e9 h).mpr c), if_pos c]
  · rw [if_neg (fun z => c ((kd_e9 h).mp z)), if_neg c, aN_e kd h]
theorem tA_4 {kd : Nat} (h : kd < 13) {dr al : Nat → Nat} {nd : Nat} (ha : ∀ k, k < nd → al (dr k) = 1 ∨ al (dr k) = 2 ∨ al (dr k) = 4 ∨ al (dr k) = 8) : tA kd dr al nd = 1 ∨ tA kd dr al nd = 2 ∨ tA kd dr al nd = 4 ∨ tA kd dr al nd = 8 := by
  unfold tA
  split
  · exact la_al4 ha nd (Nat.le_refl _)
  · exact (zN_b kd h).2.2.1
section RRy
variable {K K' : List Nat} {am N am' N' hd : Nat → Nat} {S S' : gS} {F F' : Nat → Int32} {B B' : Nat → Nat → Int32} {NT ni nf nd Lv Md : Nat} {ct dp sz al dr hm ar rs ru cf hp : Nat → Nat} {pt : Nat → Nat → Nat}
def ptn (pt : Nat → Nat → Nat) (NT : Nat) (dr : Nat → Nat) (t : Nat) : Nat → Nat := if t = NT then dr else pt t
theorem ptn_eq : ptn pt NT dr NT = dr := if_pos rfl
theorem ptn_ne {t : Nat} (h : t ≠ NT) : ptn pt NT dr t = pt t := if_neg h
theorem ty_S_g {q k j : Nat} (h : ¬ (k = 0 ∧ (j = 1 ∨ j = 3))) : (ty_S S NT q).1 k j = S.1 k j := by
  rw [ty_S, gsG_nj (by omega), gsG_nj (by omega)]
  rfl
theorem RR.type {kd q : Nat} {n : Int32} {am2 N2 : Nat → Nat} {S2 : gS} {f59 : Nat → Int32} (H : RR hd K am N S F B NT ni nf nd Lv Md ct dp pt sz al dr hm ar rs ru cf hp) (hkd : kd < 13) (hNT : NT < 32) (hhp : hp_of (nI kd) (nI nd)) (hdp : ¬ 5 < nI (la_dp dr dp nd)) (hz : ¬ 96 < la_Z kd (la_al dr al nd) (la_en (nI kd) (la_al dr al nd) dr al sz nd)) (hQ : tyQ (va_up am (100 + 3 * NT) q) N (gsO S (100 + 3 * NT) (fun j => defaultValue (t_ty j))) NT kd nd n dr al sz dp (fun t => if lb_r B ct pt 5 t = true then 1 else 0) am2 N2 S2)
    (e2 : B' 2 = upd (B 2) NT (nI kd)) (e3 : B' 3 = upd (B 3) NT n) (e4 : B' 4 = upd (B 4) NT (la_Z kd (la_al dr al nd) (la_en (nI kd) (la_al dr al nd) dr al sz nd))) (e5 : B' 5 = upd (B 5) NT (la_A kd (la_al dr al nd))) (e6 : B' 6 = upd (B 6) NT (nI (la_dp dr dp nd))) (e7 : B' 7 = upd (B 7) NT (nI nd)) (e8 : B' 8 = mo_tp (B 8) (B 11) NT nd) (e9 : B' 9 = mo_tp (B 9) (la_os (nI kd) (la_al dr al nd) dr al sz f59 nd) NT nd) (hB : ∀ f, f < 37 → f < 2 ∨ 9 < f → B' f = B f) (h1 : F' 1 = nI (NT + 1)) (h10 : F' 10 = 0) (hF : ∀ f, f = 12 ∨ f = 22 ∨ f = 25 ∨ f = 29 ∨ f = 33 ∨ f = 34 ∨ f = 35 → F' f = F f) :
    RR hd (K ++ [100 + 3 * NT, 101 + 3 * NT, 102 + 3 * NT]) am2 N2 (ty_S S2 NT (am2 (100 + 3 * NT))) F' B' (NT + 1) ni nf 0 Lv Md (va_up ct NT nd) (va_up dp NT (la_dp dr dp nd)) (ptn pt NT dr) (va_up sz NT (tZ kd dr al sz nd)) (va_up al NT (tA kd dr al nd)) dr hm ar rs ru cf hp := by
  obtain ⟨a1, a2, a3, a4, ⟨a5, a6⟩, a7, a8, a9, a10⟩ := H
  have hn6 := a4.1.2.2
  have hnd6 := a3.1.2.2
  have hW := a2.2.2.1
  have hdr : ∀ h, h < nd → dr h < NT := fun h hh => (a3.2 h hh).2.1
  have h4 : ∀ k, k < nd → al (dr k) = 1 ∨ al (dr k) = 2 ∨ al (dr k) = 4 ∨ al (dr k) = 8 := fun k hk => (a2.2.2.2.2.2 (dr k) (hdr k hk)).1
  obtain ⟨q1, q2, q3, q4, q5, q6, ⟨f0, f1, f2, f3, f4, f5, f6, f7, f8⟩, qp⟩ := hQ
  have hK : ∀ k, k ∈ K → k ≠ 100 + 3 * NT ∧ k ≠ 101 + 3 * NT ∧ k ≠ 102 + 3 * NT := fun k hk => by have := a1.2 k hk; omega
  have kk : kpK K am N (K ++ [100 + 3 * NT, 101 + 3 * NT, 102 + 3 * NT]) am2 N2 := fun k hk => by
    have := hK k hk
    refine ⟨List.mem_append_left _ hk, ?_, ?_⟩
    · rw [q1 k this.2.1 this.2.2, va_up_ne _ _ this.1]
    · rw [q2, va_up_ne _ _ this.2.2, va_up_ne _ _ this.2.1]
  have g : ∀ k j, k ≠ 100 + 3 * NT → ¬ (k = 0 ∧ (j = 1 ∨ j = 3)) → (ty_S S2 NT (am2 (100 + 3 * NT))).1 k j = S.1 k j := fun k j w1 w2 => by
    rw [ty_S_g w2, q3 k j w1]
    show va_up S.1 (100 + 3 * NT) _ k j = _
    rw [va_up_ne _ _ w1]
  have gn : ∀ j, (ty_S S2 NT (am2 (100 + 3 * NT))).1 (100 + 3 * NT) j = S2.1 (100 + 3 * NT) j := fun j => ty_S_g (by omega)
  have gq : ∀ k, k ≠ 1 → k ≠ 101 + 3 * NT → (ty_S S2 NT (am2 (100 + 3 * NT))).2.2.1 k = S.2.2.1 k := fun k w1 w2 => by
    show up2 S2.2.2.1 1 NT _ k = _
    rw [up2_ne _ _ w1, q5 k w2]
    rfl
  have gq1 : ∀ t, (ty_S S2 NT (am2 (100 + 3 * NT))).2.2.1 1 t = if t = NT then some (am2 (100 + 3 * NT)) else S.2.2.1 1 t := fun t => by
    show up2 S2.2.2.1 1 NT _ 1 t = _
    rw [up2_self]
    by_cases e : t = NT
    · subst e; rw [if_pos rfl, va_up_self]
    · rw [if_neg e, va_up_ne _ _ e, q5 1 (by omega)]; rfl
  have gqn : ∀ h, (ty_S S2 NT (am2 (100 + 3 * NT))).2.2.1 (101 + 3 * NT) h = S2.2.2.1 (101 + 3 * NT) h := fun h => by
    show up2 S2.2.2.1 1 NT _ (101 + 3 * NT) h = _
    rw [up2_ne _ _ (by omega)]
  have gA : ∀ k, k ≠ 102 + 3 * NT → (ty_S S2 NT (am2 (100 + 3 * NT))).2.1 k = S.2.1 k := fun k w1 => q4 k w1
  have nd2 : va_nd (K ++ [100 + 3 * NT, 101 + 3 * NT, 102 + 3 * NT]) = true := by
    refine nd_apl _ _ a1.1.1.1 (fun k hk hm => ?_) (by simp)
    have := hK k hm
    simp only [List.mem_cons, List.not_mem_nil, or_false] at hk
    omega
  have d5 : la_dp dr dp nd ≤ 5 := by
    have := la_dp_le (dr := dr) (dp := dp) (nd := nd) (fun k hk => (hW.2.1 _ (hdr k hk)).2.2.2) nd (Nat.le_refl _)
    have := n_nlt 5 (la_dp dr dp nd) hdp
    omega
  have z96 : tZ kd dr al sz nd ≤ 96 := by
    rw [tZ_e hkd] at hz
    have hsz := la_en_le (k := nI kd) (LA := la_al dr al nd) (dr := dr) (al := al) (sz := sz) (nd := nd) (fun k hk => ⟨by have := h4 k hk; omega, by have := h4 k hk; omega, (a2.2.2.2.2.1.1 _ (hdr k hk)).2.1⟩) (by have := la_al4 h4 nd (Nat.le_refl _); omega) nd (Nat.le_refl _)
    have hb : tZ kd dr al sz nd < 2147483648 := by
      unfold tZ
      split
      · have := la_al4 h4 nd (Nat.le_refl _)
        have := mo_ut_le (la_en (nI kd) (la_al dr al nd) dr al sz nd) (la_al dr al nd) (by omega)
        omega
      · have := (zN_b kd hkd).2.1; omega
    exact n_nlt 96 (tZ kd dr al sz nd) hz
  have b2 : ∀ t, t < NT → B' 2 t = B 2 t := fun t ht => by rw [e2, upd_ne (by omega)]
  have cE : ∀ t, t < NT → va_up ct NT nd t = ct t := fun t ht => va_up_ne _ _ (by omega)
  have pE : ∀ t, t < NT → ptn pt NT dr t = pt t := fun t ht => ptn_ne (by omega)
  have lbE := lb_in (B' := B') (ct' := va_up ct NT nd) (pt' := ptn pt NT dr) hW b2 cE pE
  have lbn : lb_r B' (va_up ct NT nd) (ptn pt NT dr) 5 NT = true ↔ (kd = 12 ∨ ∃ h, h < nd ∧ lb_r B ct pt 5 (dr h) = true) := by
    rw [lb_r, e2, upd_eq, va_up_self]
    by_cases c : kd = 12
    · rw [if_pos (by rw [c]; rfl)]; exact ⟨fun _ => Or.inl c, fun _ => rfl⟩
    · rw [if_neg (fun z => c (n_eq kd 12 z)), lb_s_x]
      constructor
      · rintro ⟨j, -, w2, w3⟩
        rw [ptn_eq, lbE _ _ (hdr j (by omega))] at w3
        exact Or.inr ⟨j, by omega, by rw [lb_dp hW 4 _ (hdr j (by omega)) (by have := la_dpx dr dp nd (h := j) (by omega); omega)]; exact w3⟩
      · rintro (w | ⟨j, w1, w2⟩)
        · exact absurd w c
        · refine ⟨j, by omega, by omega, ?_⟩
          rw [ptn_eq, lbE _ _ (hdr j w1), ← lb_dp hW 4 _ (hdr j w1) (by have := la_dpx dr dp nd (h := j) w1; omega)]
          exact w2
  have nd8 : kd = 8 → nd = 1 := fun c => by
    have := (hp_8 (x := nI kd) (n := nI nd) (by rw [c]; rfl)).mp hhp
    exact n_eq nd 1 this
  have nd0 : ¬ kd = 8 → ¬ kd = 9 → ¬ kd = 10 → nd = 0 := fun c1 c2 c3 => by
    rcases hhp with ⟨w, -⟩ | ⟨w, -⟩ | ⟨-, -, -, w⟩
    · exact absurd (n_eq kd 8 w) c1
    · exact absurd ((kd_e9 hkd).mp w) (by omega)
    · exact n_eq nd 0 w
  have nd10 : kd = 10 → 1 ≤ nd := fun c => by
    have := (hp_9 (x := nI kd) (n := nI nd) (Or.inr (by rw [c]; rfl))).mp hhp
    exact n_nlt nd 1 this
  have tA4 := tA_4 hkd h4
  have psz : ¬ kd = 9 → ¬ kd = 10 → tZ kd dr al sz nd = zN kd := fun c1 c2 => by unfold tZ; rw [if_neg (by omega)]
  have e8a : ∀ t k, t < NT → k < 6 → B' 8 (6 * t + k) = B 8 (6 * t + k) := fun t k ht hk => by rw [e8, tp_at, if_neg (by omega)]
  have e9a : ∀ t k, t < NT → k < 6 → B' 9 (6 * t + k) = B 9 (6 * t + k) := fun t k ht hk => by rw [e9, tp_at, if_neg (by omega)]
  have e8n : ∀ k, k < nd → B' 8 (6 * NT + k) = nI (dr k) := fun k hk => by
    rw [e8, tp_at, if_pos (by omega), show 6 * NT + k - 6 * NT = k by omega]; exact (a3.2 k hk).2.2
  have e9n : ∀ k, k < nd → B' 9 (6 * NT + k) = nI (la_o (nI kd) (la_al dr al nd) (la_en (nI kd) (la_al dr al nd) dr al sz k) (al (dr k))) := fun k hk => by
    rw [e9, tp_at, if_pos (by omega), show 6 * NT + k - 6 * NT = k by omega, la_osA _ _ _ _ _ _ _ hk]
  have o1 : ∀ t, t < NT → t ≠ NT := fun t ht => by omega
  have TY : rT (K ++ [100 + 3 * NT, 101 + 3 * NT, 102 + 3 * NT]) am2 N2 (ty_S S2 NT (am2 (100 + 3 * NT))) F' B' (NT + 1) (va_up ct NT nd) (va_up dp NT (la_dp dr dp nd)) (ptn pt NT dr) (va_up sz NT (tZ kd dr al sz nd)) (va_up al NT (tA kd dr al nd)) := by
    refine ⟨⟨by omega, fun t ht => ?_⟩, ⟨?_, h1⟩, ⟨by omega, fun t ht => ?_, fun t k ht hk => ?_⟩, fun t ht => ?_, ⟨fun t ht => ?_, fun t u ht hu he h9 h10 => ?_⟩, fun t ht => ?_⟩
    · by_cases e : t = NT
      · subst e
        refine ⟨⟨List.mem_append_right _ (by simp), List.mem_append_right _ (by simp), List.mem_append_right _ (by simp)⟩, ⟨by rw [gq1, if_pos rfl], ⟨?_, ?_, ?_, ?_, ?_, ?_, ?_, ?_⟩, ⟨?_, ?_⟩, fun k hk => ?_⟩, kd, by omega, by rw [e2, upd_eq]⟩
        · rw [gn, f0, e2, upd_eq]
        · rw [gn, f1, e3, upd_eq]
        · rw [gn, f2, e7, upd_eq]
        · rw [gn, f3]
        · rw [gn, f4]
        · rw [gn, f5, e6, upd_eq]
        · rw [gn, f7, e5, upd_eq]
        · rw [gn, f8, e4, upd_eq]
        · rw [q2, va_up_ne _ _ (by omega), va_up_self, va_up_self]
        · rw [q2, va_up_self, va_up_self]
        · rw [va_up_self] at hk
          rw [gqn, (qp k hk).1, ptn_eq, va_up_ne _ _ (by have := hdr k hk; omega), (kk _ (a2.1.k0 (hdr k hk))).2.1, e9n k hk]
          exact ⟨rfl, (qp k hk).2⟩
      · have ht8 : t < NT := by omega
        obtain ⟨⟨k0, k1, k2⟩, ⟨w2, ⟨b0, b1, b2, b3, b4, b5, b7, b8⟩, ⟨w4, w4'⟩, w5⟩, w6⟩ := a2.1.2 t ht8
        have g9 : ∀ j, (ty_S S2 NT (am2 (100 + 3 * NT))).1 (100 + 3 * t) j = S.1 (100 + 3 * t) j := fun j => g _ j (by omega) (by omega)
        refine ⟨⟨(kk _ k0).1, (kk _ k1).1, (kk _ k2).1⟩, ⟨by rw [gq1, if_neg e, (kk _ k0).2.1]; exact w2, ⟨?_, ?_, ?_, ?_, ?_, ?_, ?_, ?_⟩, ⟨by rw [(kk _ k1).2.2, cE t ht8]; exact w4, by rw [(kk _ k2).2.2, cE t ht8]; exact w4'⟩, fun k hk => ?_⟩, ?_⟩
        · rw [g9, e2, upd_ne e]; exact b0
        · rw [g9, e3, upd_ne e]; exact b1
        · rw [g9, e7, upd_ne e]; exact b2
        · rw [g9, (kk _ k1).2.1]; exact b3
        · rw [g9, (kk _ k2).2.1]; exact b4
        · rw [g9, e6, upd_ne e]; exact b5
        · rw [g9, e5, upd_ne e]; exact b7
        · rw [g9, e4, upd_ne e]; exact b8
        · rw [cE t ht8] at hk
          obtain ⟨p1, p2⟩ := w5 k hk
          have hp := (hW.2.2 t k ht8 hk).2.1
          have c6 := (hW.2.1 t ht8).2.1
          rw [gq _ (by omega) (by omega), gA _ (by omega), e9a t k ht8 (by omega), pE t ht8, (kk _ (a2.1.k0 hp)).2.1]
          exact ⟨p1, p2⟩
        · rw [e2, upd_ne e]; exact w6
    · rw [ty_S, gsG_nj (Or.inr (by decide))]; exact gsG_eq _ _ _ _
    · by_cases e : t = NT
      · subst e
        rw [e7, upd_eq, va_up_self, va_up_self]
        exact ⟨rfl, hnd6, la_dp1 _ _ _, d5⟩
      · rw [e7, upd_ne e, va_up_ne _ _ e, va_up_ne _ _ e]; exact hW.2.1 t (by omega)
    · by_cases e : t = NT
      · subst e
        rw [va_up_self] at hk
        have := hdr k hk
        rw [e8n k hk, ptn_eq, va_up_self, va_up_ne _ _ (by omega)]
        exact ⟨rfl, by omega, by have := la_dpx dr dp nd hk; omega⟩
      · have ht8 : t < NT := by omega
        rw [cE t ht8] at hk
        have c6 := (hW.2.1 t ht8).2.1
        obtain ⟨p1, p2, p3⟩ := hW.2.2 t k ht8 hk
        rw [e8a t k ht8 (by omega), pE t ht8, va_up_ne _ _ e, va_up_ne _ _ (by omega)]
        exact ⟨p1, by omega, p3⟩
    · by_cases e : t = NT
      · subst e
        rw [e5, e2, e4, upd_eq, upd_eq, upd_eq, va_up_self, tZ_e hkd, tA_e hkd]
        refine ⟨fun z => ?_, fun z => nd8 (n_eq kd 8 z), fun w6 w8 w9 w10 wl => ⟨tZ kd dr al sz nd, rfl, ?_⟩⟩
        · have := n_eq (tA kd dr al nd) 0 z (ha := by omega); omega
        · have b9 : ¬ kd = 9 := fun z => w9 (by rw [z]; rfl)
          have b10 : ¬ kd = 10 := fun z => w10 (by rw [z]; rfl)
          rw [psz b9 b10]
          have := zN_b kd hkd
          exact ⟨this.1, this.2.1, fun z => this.2.2.2.1 (n_eq kd 5 z)⟩
      · rw [e5, e2, e4, upd_ne e, upd_ne e, upd_ne e, va_up_ne _ _ e]; exact a2.2.2.2.1 t (by omega)
    · by_cases e : t = NT
      · subst e
        rw [e5, e2, e4, upd_eq, upd_eq, upd_eq, va_up_self, va_up_self, va_up_self, tZ_e hkd, tA_e hkd]
        have zb := zN_b kd hkd
        have t1 : 1 ≤ tA kd dr al nd ∧ tA kd dr al nd ≤ 8 := by clear hhp; rcases tA4 with w | w | w | w <;> rw [w] <;> decide
        refine ⟨rfl, z96, rfl, t1.1, t1.2, fun z => ?_, fun z => ?_, fun z => ?_, fun z k hk => ?_⟩
        · have : kd = 6 ∨ kd = 8 := z.elim (fun y => Or.inl (n_eq kd 6 y)) (fun y => Or.inr (n_eq kd 8 y))
          rw [psz (by omega) (by omega)]; exact zb.2.2.2.2.1 this
        · have : 10 < kd := n_nle kd 10 z
          rw [psz (by omega) (by omega)]; exact zb.2.2.2.2.2.1 this
        · have c : kd = 10 := n_eq kd 10 z
          have n1 := nd10 c
          have w := la_enx (k := nI kd) (LA := la_al dr al nd) (dr := dr) (al := al) (sz := sz) (nd := nd) (Or.inr z) h4 (h := 0) nd (Nat.le_refl _) (by omega)
          have lo : la_o (nI kd) (la_al dr al nd) (la_en (nI kd) (la_al dr al nd) dr al sz 0) (al (dr 0)) = la_al dr al nd := by
            unfold la_o
            rw [if_neg (fun y => absurd (n_eq kd 9 y) (by omega)), if_pos z]
          have l4 := la_al4 h4 nd (Nat.le_refl _)
          have ug := ut_ge (e := la_en (nI kd) (la_al dr al nd) dr al sz nd) l4
          unfold tZ
          rw [if_pos (Or.inr c)]
          omega
        · have c := (kd_e9 hkd).mp z
          have w := la_enx (k := nI kd) (LA := la_al dr al nd) (dr := dr) (al := al) (sz := sz) (nd := nd) z h4 (h := k) nd (Nat.le_refl _) hk
          have l4 := la_al4 h4 nd (Nat.le_refl _)
          have ug := ut_ge (e := la_en (nI kd) (la_al dr al nd) dr al sz nd) l4
          refine ⟨_, e9n k hk, ?_⟩
          rw [ptn_eq, va_up_ne _ _ (by have := hdr k hk; omega)]
          show _ ≤ tZ kd dr al sz nd
          unfold tZ
          rw [if_pos c]
          omega
      · have ht8 : t < NT := by omega
        obtain ⟨c1, c2, c3, c4, c5, c6, c7, c8, c9⟩ := a2.2.2.2.2.1.1 t ht8
        rw [e5, e2, e4, upd_ne e, upd_ne e, upd_ne e, va_up_ne _ _ e, va_up_ne _ _ e, va_up_ne _ _ e]
        refine ⟨c1, c2, c3, c4, c5, c6, c7, c8, fun z k hk => ?_⟩
        have k6 := (hW.2.1 t ht8).2.1
        obtain ⟨off, o1, o2⟩ := c9 z k hk
        have hp := (hW.2.2 t k ht8 hk).2.1
        exact ⟨off, by rw [e9a t k ht8 (by omega)]; exact o1, by rw [pE t ht8, va_up_ne _ _ (by omega)]; exact o2⟩
    · have PS : ∀ t, t < NT + 1 → ¬ B' 2 t = 9 → ¬ B' 2 t = 10 → nI (va_up sz NT (tZ kd dr al sz nd) t) = mo_psz (B' 2 t) ∧ va_up sz NT (tZ kd dr al sz nd) t ≤ 96 := fun t ht w9 w10 => by
        by_cases e : t = NT
        · subst e
          rw [e2, upd_eq] at w9 w10 ⊢
          rw [va_up_self, psz (fun z => w9 (by rw [z]; rfl)) (fun z => w10 (by rw [z]; rfl)), zN_e kd hkd]
          exact ⟨rfl, by have := (zN_b kd hkd).2.1; omega⟩
        · rw [e2, upd_ne e] at w9 w10 ⊢
          rw [va_up_ne _ _ e, ← (a2.2.2.2.2.1.1 t (by omega)).1]
          exact ⟨(a2.2.2.2.2.2 t (by omega)).2.2.2.2 w9 w10, (a2.2.2.2.2.1.1 t (by omega)).2.1⟩
      obtain ⟨p1, p2⟩ := PS t ht h9 h10
      obtain ⟨p3, p4⟩ := PS u hu (by rw [← he]; exact h9) (by rw [← he]; exact h10)
      rw [← he, ← p1] at p3
      exact (n_eq _ _ p3).symm
    · by_cases e : t = NT
      · subst e
        rw [e6, e2, upd_eq, upd_eq, va_up_self, va_up_self, va_up_self]
        refine ⟨tA4, rfl, fun z => ?_, ?_, fun w9 w10 => ?_⟩
        · have : kd = 0 ∨ kd = 7 := z.elim (fun y => Or.inl (n_eq kd 0 y)) (fun y => Or.inr (n_eq kd 7 y))
          rw [psz (by omega) (by omega)]; exact (zN_b kd hkd).2.2.2.2.2.2 this
        · rw [gn, f6]
          have bo := bo_at kd (fun t => if lb_r B ct pt 5 t = true then 1 else 0) dr nd
          have eqv : (kd = 12 ∨ ∃ h, h < nd ∧ ¬ (if lb_r B ct pt 5 (dr h) = true then (1 : Int32) else 0) = 0) ↔ (kd = 12 ∨ ∃ h, h < nd ∧ lb_r B ct pt 5 (dr h) = true) := by
            refine ⟨fun z => z.elim Or.inl (fun ⟨h, w1, w2⟩ => Or.inr ⟨h, w1, ?_⟩), fun z => z.elim Or.inl (fun ⟨h, w1, w2⟩ => Or.inr ⟨h, w1, by rw [if_pos w2]; decide⟩)⟩
            exact Decidable.byContradiction fun y => w2 (if_neg y)
          by_cases c : lb_r B' (va_up ct t nd) (ptn pt t dr) 5 t = true
          · rw [if_pos c, bo.1 (eqv.mpr (lbn.mp c))]
          · rw [if_neg c, bo.2 (fun z => c (lbn.mpr (eqv.mp z)))]
        · rw [e4, upd_eq, tZ_e hkd, psz (fun z => w9 (by rw [z]; rfl)) (fun z => w10 (by rw [z]; rfl)), zN_e kd hkd]
      · have ht8 : t < NT := by omega
        rw [e6, e2, e4, upd_ne e, upd_ne e, upd_ne e, va_up_ne _ _ e, va_up_ne _ _ e, va_up_ne _ _ e, lbE 5 t ht8, g _ 6 (by omega) (by omega)]
        exact a2.2.2.2.2.2 t ht8
  refine ⟨⟨a1.1.kk kk nd2 (fun j w1 w3 _ _ _ _ _ => g 0 j (by omega) (by omega)) (fun j _ => g 10 j (by omega) (by omega)), fun k hk9 => ?_⟩, TY, ⟨⟨gsG_eq _ _ _ _, h10, by omega⟩, fun h hh => absurd hh (Nat.not_lt_zero h)⟩, a4.tr kk (g 0 5 (by omega) (by omega)) (fun a j _ _ => g _ j (by omega) (by omega)) (fun a _ => gA _ (by omega)) (fun i _ => ⟨gq _ (by omega) (by omega), by rw [gq 3 (by decide) (by omega)]⟩) (fun f _ _ => hB f (by omega) (by omega)) (hF 12 (by omega)), ⟨a5.tr (fun i hi => (a4.2.1 i hi).1) kk (fun i h j _ _ => g _ j (by omega) (by omega)) (fun f _ _ => hB f (by omega) (by omega)), a6.tr (fun f _ _ => hB f (by omega) (by omega)) (hB 24 (by omega) (by omega))⟩, a7.tr (g 0 12 (by omega) (by omega)) ⟨gA 8 (by omega), gA 9 (by omega)⟩ (hB 23 (by omega) (by omega)) (hB 24 (by omega) (by omega)) (hF 22 (by omega)), ⟨⟨(g 0 7 (by omega) (by omega)).trans a8.1.1, (hF 25 (by omega)).trans a8.1.2.1, a8.1.2.2⟩, fun f hf => ?_⟩, a9.tr (g 0 11 (by omega) (by omega)) (fun k _ _ => gA k (by omega)) (hB 15 (by omega) (by omega)) (fun f _ _ => hB f (by omega) (by omega)) (hF 29 (by omega)), a10.tr (g 14 0 (by omega) (by omega)) (g 14 1 (by omega) (by omega)) (g 0 17 (by omega) (by omega)) ⟨hF 33 (by omega), hF 34 (by omega), hF 35 (by omega)⟩⟩
  · rcases List.mem_append.mp hk9 with h | h
    · have := a1.2 k h; omega
    · simp only [List.mem_cons, List.not_mem_nil, or_false] at h
      omega
  · have hf12 := a8.1.2.2
    obtain ⟨-, c1, c2, c3, c4⟩ := a8.2 f hf
    obtain ⟨d1, d2, d3, d4, d5, d6, d7, d8⟩ := a8.of (S' := ty_S S2 NT (am2 (100 + 3 * NT))) a2.1 kk (fun f j hf => g _ j (by omega) (by omega)) (fun f hf => by rw [gq 4 (by decide) (by omega)]) hf
    rw [hB 26 (by omega) (by omega), hB 27 (by omega) (by omega), hB 28 (by omega) (by omega), lbE 5 _ d8]
    exact ⟨⟨d1, d2, d3, d4, d5, d6, by omega, by omega⟩, c1, c2, c3, c4⟩
end RRy
