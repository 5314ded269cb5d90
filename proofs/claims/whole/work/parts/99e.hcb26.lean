theorem gk_ty3 : ∀ t, t < 33 → gk (100 + 3 * t) = 1 ∧ gk (101 + 3 * t) = 21 ∧ gk (102 + 3 * t) = 20 := by decide +kernel
/-! the two tables -/
def tbA (j : Nat) : Value := .int (([1, 1, 2, 4, 8, 4, 2, 1, 2, 0, 0, 1, 1] : List Int32).getD j 0)
def tbS (j : Nat) : Value := .int (([1, 1, 2, 4, 8, 4, 4, 1, 4, 0, 0, 1, 1] : List Int32).getD j 0)
def hc_ST (Z : (Nat → Prop) → State → Heap → Prop) (ta tz : Nat) : Prop := ∀ (A : Nat → Prop) (s : State), Z A s s.heap → va_Z "HostedCalls" "ALIGNMENTS" "[I" (.ref ta) A s s.heap ∧ va_Z "HostedCalls" "SIZES" "[I" (.ref tz) A s s.heap ∧ va_T .int ta 13 tbA A s s.heap ∧ va_T .int tz 13 tbS A s s.heap
theorem tbA_k : ∀ kd, kd < 13 → ¬ kd = 9 → ¬ kd = 10 → tbA (nI kd).toNatClampNeg = .int (la_a0 (nI kd)) := by
  intro kd h h9 h10
  obtain rfl | rfl | rfl | rfl | rfl | rfl | rfl | rfl | rfl | rfl | rfl : kd = 0 ∨ kd = 1 ∨ kd = 2 ∨ kd = 3 ∨ kd = 4 ∨ kd = 5 ∨ kd = 6 ∨ kd = 7 ∨ kd = 8 ∨ kd = 11 ∨ kd = 12 := by omega
  all_goals rfl
theorem tbS_k : ∀ kd, kd < 13 → ¬ kd = 9 → ¬ kd = 10 → tbS (nI kd).toNatClampNeg = .int (mo_psz (nI kd)) := by
  intro kd h h9 h10
  obtain rfl | rfl | rfl | rfl | rfl | rfl | rfl | rfl | rfl | rfl | rfl : kd = 0 ∨ kd = 1 ∨ kd = 2 ∨ kd = 3 ∨ kd = 4 ∨ kd = 5 ∨ kd = 6 ∨ kd = 7 ∨ kd = 8 ∨ kd = 11 ∨ kd = 12 := by omega
  all_goals rfl
/-- does it lend: of the kind itself and the first n parts -/
def bo_l (kd : Nat) (bz : Nat → Int32) (dr : Nat → Nat) : Nat → Int32
  | 0 => if kd = 12 then 1 else 0
  | n + 1 => if ¬ bo_l kd bz dr n = 0 ∨ ¬ bz (dr n) = 0 then 1 else 0
theorem bo_01 (kd : Nat) (bz : Nat → Int32) (dr : Nat → Nat) (n : Nat) : bo_l kd bz dr n = 0 ∨ bo_l kd bz dr n = 1 := by
  cases n with
  | zero => rw [bo_l]; split <;> simp
  | succ n => rw [bo_l]; split <;> simp
theorem bo_nar (kd : Nat) (bz : Nat → Int32) (dr : Nat → Nat) (n : Nat) : narrow .boolean (.int (bo_l kd bz dr n)) = .int (bo_l kd bz dr n) := by
  rcases bo_01 kd bz dr n with h | h <;> rw [h] <;> rfl
theorem bo_fit (kd : Nat) (bz : Nat → Int32) (dr : Nat → Nat) (n : Nat) : Jvm.fits .boolean (.int (bo_l kd bz dr n)) = true := by
  rcases bo_01 kd bz dr n with h | h <;> rw [h] <;> rfl
theorem n_mx {a b : Nat} (ha : a < 100000) (hb : b < 100000) : (if nI a < nI b then nI b else nI a) = nI (if a < b then b else a) := by
  by_cases h : a < b
  · rw [if_pos (nI_lt h (by omega)), if_pos h]
  · rw [if_neg (fun z => h (n_lt a b z)), if_neg h]
theorem la_dp1 (dr dp : Nat → Nat) (n : Nat) : 1 ≤ la_dp dr dp n := by
  cases n with
  | zero => exact Nat.le_refl 1
  | succ n => rw [la_dp]; have := la_dp1 dr dp n; split <;> omega
theorem la_dpm (dr dp : Nat → Nat) (n : Nat) : (if la_dp dr dp n - 1 < dp (dr n) then dp (dr n) else la_dp dr dp n - 1) = la_dp dr dp (n + 1) - 1 := by
  have h := la_dp1 dr dp n
  rw [la_dp]
  split <;> split <;> omega
theorem la_alm (dr al : Nat → Nat) (n : Nat) : (if la_al dr al n < al (dr n) then al (dr n) else la_al dr al n) = la_al dr al (n + 1) := by
  rw [la_al]
  split <;> split <;> omega
theorem ut_ge {e a : Nat} (h : a = 1 ∨ a = 2 ∨ a = 4 ∨ a = 8) : e ≤ mo_ut e a := by
  unfold mo_ut
  rcases h with rfl | rfl | rfl | rfl <;> omega
theorem la_enm {k : Int32} {LA : Nat} {dr al sz : Nat → Nat} {n : Nat} (h : al (dr n) = 1 ∨ al (dr n) = 2 ∨ al (dr n) = 4 ∨ al (dr n) = 8) : (if la_en k LA dr al sz n < la_o k LA (la_en k LA dr al sz n) (al (dr n)) + sz (dr n) then la_o k LA (la_en k LA dr al sz n) (al (dr n)) + sz (dr n) else la_en k LA dr al sz n) = la_en k LA dr al sz (n + 1) := by
  rw [la_en]
  by_cases c : la_en k LA dr al sz n < la_o k LA (la_en k LA dr al sz n) (al (dr n)) + sz (dr n)
  · rw [if_pos c, if_pos (Or.inr c)]
  · rw [if_neg c]
    by_cases d : k = 9
    · rw [if_pos (Or.inl d)]
      have := ut_ge (e := la_en k LA dr al sz n) h
      have e1 : la_o k LA (la_en k LA dr al sz n) (al (dr n)) = mo_ut (la_en k LA dr al sz n) (al (dr n)) := if_pos d
      rw [e1] at c ⊢
      omega
    · rw [if_neg (fun z => z.elim d c)]
theorem ob_la {kd LA e a : Nat} (hk : kd < 13) (h : a = 1 ∨ a = 2 ∨ a = 4 ∨ a = 8) (he : e ≤ 100000) : ob_of (nI e) (nI kd) (nI LA) (nI a) = nI (la_o (nI kd) LA e a) := by
  unfold ob_of la_o
  by_cases c : nI kd = 9
  · rw [if_pos c, if_pos c]; exact ar_ut e h he
  · rw [if_neg c, if_neg c]
    by_cases d : nI kd = 10
    · rw [if_pos d, if_pos d]
    · rw [if_neg d, if_neg d]; rfl
/-- the draft and its parts, as the class has them -/
def drR (K : List Nat) (am : Nat → Nat) (S : gS) (t nd : Nat) (dr al sz dp : Nat → Nat) (bz : Nat → Int32) : Prop := ∀ h, h < nd → S.2.2.1 2 h = some (am (100 + 3 * dr h)) ∧ dr h < t ∧ 100 + 3 * dr h ∈ K ∧ S.1 (100 + 3 * dr h) 5 = .int (nI (dp (dr h))) ∧ S.1 (100 + 3 * dr h) 6 = .int (bz (dr h)) ∧ S.1 (100 + 3 * dr h) 7 = .int (nI (al (dr h))) ∧ S.1 (100 + 3 * dr h) 8 = .int (nI (sz (dr h))) ∧ dp (dr h) ≤ 5 ∧ (al (dr h) = 1 ∨ al (dr h) = 2 ∨ al (dr h) = 4 ∨ al (dr h) = 8) ∧ sz (dr h) ≤ 96
def la_A (kd LA : Nat) : Int32 := if nI kd = 9 ∨ nI kd = 10 then nI LA else la_a0 (nI kd)
def la_Z (kd LA en : Nat) : Int32 := if nI kd = 9 ∨ nI kd = 10 then nI (mo_ut en LA) else mo_psz (nI kd)
/-- a new type -/
def tyQ (am N : Nat → Nat) (S : gS) (t kd nd : Nat) (n : Int32) (dr al sz dp : Nat → Nat) (bz : Nat → Int32) (am' N' : Nat → Nat) (S' : gS) : Prop :=
  (∀ k, k ≠ 101 + 3 * t → k ≠ 102 + 3 * t → am' k = am k) ∧ N' = va_up (va_up N (101 + 3 * t) nd) (102 + 3 * t) nd ∧ (∀ k j, k ≠ 100 + 3 * t → S'.1 k j = S.1 k j) ∧ (∀ k, k ≠ 102 + 3 * t → S'.2.1 k = S.2.1 k) ∧ (∀ k, k ≠ 101 + 3 * t → S'.2.2.1 k = S.2.2.1 k) ∧ S'.2.2.2 = S.2.2.2
  ∧ (S'.1 (100 + 3 * t) 0 = .int (nI kd) ∧ S'.1 (100 + 3 * t) 1 = .int n ∧ S'.1 (100 + 3 * t) 2 = .int (nI nd) ∧ S'.1 (100 + 3 * t) 3 = .ref (am' (101 + 3 * t)) ∧ S'.1 (100 + 3 * t) 4 = .ref (am' (102 + 3 * t)) ∧ S'.1 (100 + 3 * t) 5 = .int (nI (la_dp dr dp nd)) ∧ S'.1 (100 + 3 * t) 6 = .int (bo_l kd bz dr nd) ∧ S'.1 (100 + 3 * t) 7 = .int (la_A kd (la_al dr al nd)) ∧ S'.1 (100 + 3 * t) 8 = .int (la_Z kd (la_al dr al nd) (la_en (nI kd) (la_al dr al nd) dr al sz nd)))
  ∧ ∀ h, h < nd → S'.2.2.1 (101 + 3 * t) h = some (am (100 + 3 * dr h)) ∧ S'.2.1 (102 + 3 * t) h = nI (la_o (nI kd) (la_al dr al nd) (la_en (nI kd) (la_al dr al nd) dr al sz h) (al (dr h)))
theorem la_al4 {dr al : Nat → Nat} {nd : Nat} (h : ∀ k, k < nd → al (dr k) = 1 ∨ al (dr k) = 2 ∨ al (dr k) = 4 ∨ al (dr k) = 8) : ∀ n, n ≤ nd → la_al dr al n = 1 ∨ la_al dr al n = 2 ∨ la_al dr al n = 4 ∨ la_al dr al n = 8 := by
  intro n hn
  induction n with
  | zero => exact Or.inl rfl
  | succ n ih =>
    have h1 := ih (by omega)
    have h2 := h n (by omega)
    rw [la_al]; split
    · exact h1
    · exact h2

set_option maxHeartbeats 4000000 in
set_option maxRecDepth 100000 in
theorem ht_ty_init {l : Launch} {D : va_G} {tl : List (ClassId × FieldType)} {Z : (Nat → Prop) → State → Heap → Prop} {K : List Nat} {am : Nat → Nat} {ks : Nat → ClassId} {N : Nat → Nat} {S : gS} {k : Nat} (t : Nat) (kd : Nat) (n : Int32) (nd : Nat) {dr al sz dp : Nat → Nat} {bz : Nat → Int32} (ta tz : Nat) (hZ : ev_Zok Z) (hNw : hc_ZN Z) (hAO : hc_AO Z) (hST : hc_ST Z ta tz) (ht : t < 33) (hkd : kd < 13) (hn6 : nd ≤ 6) (hN : va_nd K = true) (hk : (100 + 3 * t) ∈ K) (hk2 : 2 ∈ K) (hN2 : N 2 = 6) (hP9 : (101 + 3 * t) ∉ K) (hO9 : (102 + 3 * t) ∉ K) (hD : drR K am S t nd dr al sz dp bz) (hk1 : 1 < k) : MT (hc_π l D ks tl Z) (m_ty_init k 2 12) 2 12 [.ref (am (100 + 3 * t)), .int (nI kd), .int n, .ref (am 2), .int (nI nd)] (gw K am ks N S) (fun r w => r = none ∧ ∃ am' N' S', w = gw (K ++ [(101 + 3 * t), (102 + 3 * t)]) am' ks N' S' ∧ tyQ am N S t kd nd n dr al sz dp bz am' N' S') := by
  refine mt_of pl_ty rfl (Nat.le_of_ble_eq_true rfl) (ev_eq (lv' := [some (.ref (am (100 + 3 * t))), some (.int (nI kd)), some (.int n), some (.ref (am 2)), some (.int (nI nd)), none, none, none, none, none]) ?_)
  obtain ⟨gT, gP, gO⟩ := gk_ty3 t ht
  have dAl : ∀ h, h < nd → al (dr h) = 1 ∨ al (dr h) = 2 ∨ al (dr h) = 4 ∨ al (dr h) = 8 := fun h hh => (hD h hh).2.2.2.2.2.2.2.2.1
  have dA8 : ∀ h, h < nd → 1 ≤ al (dr h) ∧ al (dr h) ≤ 8 := fun h hh => by have := dAl h hh; omega
  have dLA := la_al_le (dr := dr) (al := al) dA8
  have dLD := la_dp_le (dr := dr) (dp := dp) (fun h hh => (hD h hh).2.2.2.2.2.2.2.1)
  have dEN := la_en_le (k := nI kd) (LA := (la_al dr al nd)) (dr := dr) (al := al) (sz := sz) (fun h hh => ⟨(dA8 h hh).1, (dA8 h hh).2, (hD h hh).2.2.2.2.2.2.2.2.2⟩) (dLA nd (Nat.le_refl _)).2
  have dL4 := la_al4 (dr := dr) (al := al) dAl nd (Nat.le_refl _)
  have e9 : nI kd = 9 ↔ kd = 9 := ⟨fun z => n_eq kd 9 z, fun z => by rw [z]; rfl⟩
  have e10 : nI kd = 10 ↔ kd = 10 := ⟨fun z => n_eq kd 10 z, fun z => by rw [z]; rfl⟩
  have L225 : ∀ (am' N' : Nat → Nat) (S' : gS) (l5 : Int32), va_nd (K ++ [(101 + 3 * t), (102 + 3 * t)]) = true → ((∀ k, k ≠ (101 + 3 * t) → k ≠ (102 + 3 * t) → am' k = am k) ∧ N' = va_up (va_up N (101 + 3 * t) nd) (102 + 3 * t) nd ∧ (∀ k j, k ≠ (100 + 3 * t) → S'.1 k j = S.1 k j) ∧ (∀ k, k ≠ (102 + 3 * t) → S'.2.1 k = S.2.1 k) ∧ (∀ k, k ≠ (101 + 3 * t) → S'.2.2.1 k = S.2.2.1 k) ∧ S'.2.2.2 = S.2.2.2 ∧ (S'.1 (100 + 3 * t) 0 = .int (nI kd) ∧ S'.1 (100 + 3 * t) 1 = .int n ∧ S'.1 (100 + 3 * t) 2 = .int (nI nd) ∧ S'.1 (100 + 3 * t) 3 = .ref (am' (101 + 3 * t)) ∧ S'.1 (100 + 3 * t) 4 = .ref (am' (102 + 3 * t)))) → (∀ h, h < nd → S'.2.2.1 (101 + 3 * t) h = some (am (100 + 3 * dr h))) → (∀ h, h < nd → S'.2.1 (102 + 3 * t) h = nI (la_o (nI kd) (la_al dr al nd) (la_en (nI kd) (la_al dr al nd) dr al sz h) (al (dr h)))) → (S'.1 (100 + 3 * t) 5 = .int (nI (la_dp dr dp nd)) ∧ S'.1 (100 + 3 * t) 6 = .int (bo_l kd bz dr nd)) → EV (hc_π l D ks tl Z) (m_ty_init k 2 12) (ev_E (hc_π l D ks tl Z) 2 12 (fun r w => r = none ∧ ∃ am' N' S', w = gw (K ++ [(101 + 3 * t), (102 + 3 * t)]) am' ks N' S' ∧ tyQ am N S t kd nd n dr al sz dp bz am' N' S')) 2 (nd + nd) 225 [some (.ref (am' (100 + 3 * t))), some (.int (nI kd)), some (.int n), some (.ref (am' 2)), some (.int (nI nd)), some (.int l5), some (.int (nI (la_al dr al nd))), some (.int (bo_l kd bz dr nd)), some (.int (nI (la_en (nI kd) (la_al dr al nd) dr al sz nd))), some (.int (nI nd))] [] (gw (K ++ [(101 + 3 * t), (102 + 3 * t)]) am' ks N' S') := by
    intro am' N' S' l5 hnd HB HP HO H56
    obtain ⟨q1, q2, q3, q4, q5, q6, ⟨f0, f1, f2, f3, f4⟩⟩ := HB
    obtain ⟨f5, f6⟩ := H56
    have kT : (100 + 3 * t) ∈ (K ++ [(101 + 3 * t), (102 + 3 * t)]) := List.mem_append_left _ hk
    have kP : (101 + 3 * t) ∈ (K ++ [(101 + 3 * t), (102 + 3 * t)]) := List.mem_append_right _ List.mem_cons_self
    have kO : (102 + 3 * t) ∈ (K ++ [(101 + 3 * t), (102 + 3 * t)]) := List.mem_append_right _ (List.mem_cons_of_mem _ List.mem_cons_self)
    have nP : N' (101 + 3 * t) = nd := by rw [q2, va_up_ne _ _ (by omega), va_up_self]
    have nO : N' (102 + 3 * t) = nd := by rw [q2, va_up_self]
    have n2 : N' 2 = 6 := by rw [q2, va_up_ne _ _ (by omega), va_up_ne _ _ (by omega)]; exact hN2
    refine ev_iload_1 225 d_ty_init_225 ?_
    refine ev_bipush (9) 226 d_ty_init_226 (by decide) ?_
    refine ev_icmpeq 228 237 d_ty_init_228 (fun c228 => ?_) (fun c228 => ?_)
    · refine ev_iconst_1 237 d_ty_init_237 ?_
      refine ev_goto 238 242 d_ty_init_238 ?_
      refine ev_istore_9 242 d_ty_init_242 ?_ (hn := by exact Nat.le_of_ble_eq_true rfl)
      refine ev_aload_0 244 d_ty_init_244 ?_
      refine ev_iload_9 245 d_ty_init_245 ?_
      refine ev_ifeq 247 255 d_ty_init_247 (fun c247 => ?_) (fun c247 => ?_)
      · exact absurd c247 (by decide)
      · refine ev_iload_6 250 d_ty_init_250 ?_
        refine ev_goto 252 260 d_ty_init_252 ?_
        refine gw_putF 260 (100 + 3 * t) 7 d_ty_init_260 lf_ty_38 rfl hnd kT gT (vp_nar_int _) rfl ?_
        refine ev_aload_0 263 d_ty_init_263 ?_
        refine ev_iload_9 264 d_ty_init_264 ?_
        refine ev_ifeq 266 279 d_ty_init_266 (fun c266 => ?_) (fun c266 => ?_)
        · exact absurd c266 (by decide)
        · refine ev_iload_8 269 d_ty_init_269 ?_
          refine ev_iload_6 271 d_ty_init_271 ?_
          refine ev_callSN 273 [.int (nI (la_en (nI kd) (la_al dr al nd) dr al sz nd)), .int (nI (la_al dr al nd))] [.ref (am' (100 + 3 * t))] d_ty_init_273 hZ (kn_ty_55 (k9 := 0) (mc9 := 0) (ms9 := 0) hNw) (hr_of (by omega) (by decide) (by omega) (by omega)) (ht_hc_alignedFrom _ _) (fun r9 w9 hw => ?_)
          obtain ⟨x1, y, x2, hy⟩ := hw
          subst x1
          subst x2
          rw [ar_ut _ dL4 (by have := dEN nd (Nat.le_refl _); omega)] at hy
          subst hy
          refine ev_eq (st' := [.int (nI (mo_ut (la_en (nI kd) (la_al dr al nd) dr al sz nd) (la_al dr al nd))), .ref (am' (100 + 3 * t))]) ?_
          refine ev_goto 276 284 d_ty_init_276 ?_
          refine gw_putF 284 (100 + 3 * t) 8 d_ty_init_284 lf_ty_49 rfl hnd kT gT (vp_nar_int _) rfl ?_
          refine ev_pad 2 12 (by omega) (by omega) ?_
          refine ev_vret 287 d_ty_init_287 rfl ?_
          refine ⟨rfl, am', N', _, rfl, q1, q2, fun k j hk9 => ?_, q4, q5, q6, ⟨?_, ?_, ?_, ?_, ?_, ?_, ?_, ?_, ?_⟩, fun h hh => ⟨HP h hh, HO h hh⟩⟩
          · rw [gsG_nj (Or.inl hk9), gsG_nj (Or.inl hk9)]; exact q3 k j hk9
          · rw [gsG_nj (Or.inr (by decide)), gsG_nj (Or.inr (by decide))]; exact f0
          · rw [gsG_nj (Or.inr (by decide)), gsG_nj (Or.inr (by decide))]; exact f1
          · rw [gsG_nj (Or.inr (by decide)), gsG_nj (Or.inr (by decide))]; exact f2
          · rw [gsG_nj (Or.inr (by decide)), gsG_nj (Or.inr (by decide))]; exact f3
          · rw [gsG_nj (Or.inr (by decide)), gsG_nj (Or.inr (by decide))]; exact f4
          · rw [gsG_nj (Or.inr (by decide)), gsG_nj (Or.inr (by decide))]; exact f5
          · rw [gsG_nj (Or.inr (by decide)), gsG_nj (Or.inr (by decide))]; exact f6
          · rw [gsG_nj (Or.inr (by decide)), gsG_eq, la_A, if_pos (Or.inl c228)]
          · rw [gsG_eq, la_Z, if_pos (Or.inl c228)]
    · refine ev_iload_1 231 d_ty_init_231 ?_
      refine ev_bipush (10) 232 d_ty_init_232 (by decide) ?_
      refine ev_icmpne 234 241 d_ty_init_234 (fun c234 => ?_) (fun c234 => ?_)
      · have h9 : ¬ nI kd = 9 := c228
        have h10 : ¬ nI kd = 10 := c234
        refine ev_iconst_0 241 d_ty_init_241 ?_
        refine ev_istore_9 242 d_ty_init_242 ?_ (hn := by exact Nat.le_of_ble_eq_true rfl)
        refine ev_aload_0 244 d_ty_init_244 ?_
        refine ev_iload_9 245 d_ty_init_245 ?_
        refine ev_ifeq 247 255 d_ty_init_247 (fun c247 => ?_) (fun c247 => ?_)
        · refine ev_getsN (v := .ref ta) 255 d_ty_init_255 (fun A s z => ⟨(hST A s z).1, kf_ty_52 hNw A s z⟩) ?_
          refine ev_iload_1 258 d_ty_init_258 ?_
          refine ev_tild (t := ta) (N := 13) (f := tbA) 259 d_ty_init_259 (fun A s z => (hST A s z).2.2.1) (vp_in_nI (by omega) (by decide)) (tbA_k kd (by omega) (fun z => h9 (e9.mpr z)) (fun z => h10 (e10.mpr z))) ?_
          refine gw_putF 260 (100 + 3 * t) 7 d_ty_init_260 lf_ty_38 rfl hnd kT gT (vp_nar_int _) rfl ?_
          refine ev_aload_0 263 d_ty_init_263 ?_
          refine ev_iload_9 264 d_ty_init_264 ?_
          refine ev_ifeq 266 279 d_ty_init_266 (fun c266 => ?_) (fun c266 => ?_)
          · refine ev_getsN (v := .ref tz) 279 d_ty_init_279 (fun A s z => ⟨(hST A s z).2.1, kf_ty_58 hNw A s z⟩) ?_
            refine ev_iload_1 282 d_ty_init_282 ?_
            refine ev_tild (t := tz) (N := 13) (f := tbS) 283 d_ty_init_283 (fun A s z => (hST A s z).2.2.2) (vp_in_nI (by omega) (by decide)) (tbS_k kd (by omega) (fun z => h9 (e9.mpr z)) (fun z => h10 (e10.mpr z))) ?_
            refine gw_putF 284 (100 + 3 * t) 8 d_ty_init_284 lf_ty_49 rfl hnd kT gT (vp_nar_int _) rfl ?_
            refine ev_pad 2 12 (by omega) (by omega) ?_
            refine ev_vret 287 d_ty_init_287 rfl ?_
            refine ⟨rfl, am', N', _, rfl, q1, q2, fun k j hk9 => ?_, q4, q5, q6, ⟨?_, ?_, ?_, ?_, ?_, ?_, ?_, ?_, ?_⟩, fun h hh => ⟨HP h hh, HO h hh⟩⟩
            · rw [gsG_nj (Or.inl hk9), gsG_nj (Or.inl hk9)]; exact q3 k j hk9
            · rw [gsG_nj (Or.inr (by decide)), gsG_nj (Or.inr (by decide))]; exact f0
            · rw [gsG_nj (Or.inr (by decide)), gsG_nj (Or.inr (by decide))]; exact f1
            · rw [gsG_nj (Or.inr (by decide)), gsG_nj (Or.inr (by decide))]; exact f2
            · rw [gsG_nj (Or.inr (by decide)), gsG_nj (Or.inr (by decide))]; exact f3
            · rw [gsG_nj (Or.inr (by decide)), gsG_nj (Or.inr (by decide))]; exact f4
            · rw [gsG_nj (Or.inr (by decide)), gsG_nj (Or.inr (by decide))]; exact f5
            · rw [gsG_nj (Or.inr (by decide)), gsG_nj (Or.inr (by decide))]; exact f6
            · rw [gsG_nj (Or.inr (by decide)), gsG_eq, la_A, if_neg (fun z => z.elim h9 h10)]
            · rw [gsG_eq, la_Z, if_neg (fun z => z.elim h9 h10)]
          · exact absurd rfl c266
        · exact absurd rfl c247
      · refine ev_iconst_1 237 d_ty_init_237 ?_
        refine ev_goto 238 242 d_ty_init_238 ?_
        refine ev_istore_9 242 d_ty_init_242 ?_ (hn := by exact Nat.le_of_ble_eq_true rfl)
        refine ev_aload_0 244 d_ty_init_244 ?_
        refine ev_iload_9 245 d_ty_init_245 ?_
        refine ev_ifeq 247 255 d_ty_init_247 (fun c247 => ?_) (fun c247 => ?_)
        · exact absurd c247 (by decide)
        · refine ev_iload_6 250 d_ty_init_250 ?_
          refine ev_goto 252 260 d_ty_init_252 ?_
          refine gw_putF 260 (100 + 3 * t) 7 d_ty_init_260 lf_ty_38 rfl hnd kT gT (vp_nar_int _) rfl ?_
          refine ev_aload_0 263 d_ty_init_263 ?_
          refine ev_iload_9 264 d_ty_init_264 ?_
          refine ev_ifeq 266 279 d_ty_init_266 (fun c266 => ?_) (fun c266 => ?_)
          · exact absurd c266 (by decide)
          · refine ev_iload_8 269 d_ty_init_269 ?_
            refine ev_iload_6 271 d_ty_init_271 ?_
            refine ev_callSN 273 [.int (nI (la_en (nI kd) (la_al dr al nd) dr al sz nd)), .int (nI (la_al dr al nd))] [.ref (am' (100 + 3 * t))] d_ty_init_273 hZ (kn_ty_55 (k9 := 0) (mc9 := 0) (ms9 := 0) hNw) (hr_of (by omega) (by decide) (by omega) (by omega)) (ht_hc_alignedFrom _ _) (fun r9 w9 hw => ?_)
            obtain ⟨x1, y, x2, hy⟩ := hw
            subst x1
            subst x2
            rw [ar_ut _ dL4 (by have := dEN nd (Nat.le_refl _); omega)] at hy
            subst hy
            refine ev_eq (st' := [.int (nI (mo_ut (la_en (nI kd) (la_al dr al nd) dr al sz nd) (la_al dr al nd))), .ref (am' (100 + 3 * t))]) ?_
            refine ev_goto 276 284 d_ty_init_276 ?_
            refine gw_putF 284 (100 + 3 * t) 8 d_ty_init_284 lf_ty_49 rfl hnd kT gT (vp_nar_int _) rfl ?_
            refine ev_pad 2 12 (by omega) (by omega) ?_
            refine ev_vret 287 d_ty_init_287 rfl ?_
            refine ⟨rfl, am', N', _, rfl, q1, q2, fun k j hk9 => ?_, q4, q5, q6, ⟨?_, ?_, ?_, ?_, ?_, ?_, ?_, ?_, ?_⟩, fun h hh => ⟨HP h hh, HO h hh⟩⟩
            · rw [gsG_nj (Or.inl hk9), gsG_nj (Or.inl hk9)]; exact q3 k j hk9
            · rw [gsG_nj (Or.inr (by decide)), gsG_nj (Or.inr (by decide))]; exact f0
            · rw [gsG_nj (Or.inr (by decide)), gsG_nj (Or.inr (by decide))]; exact f1
            · rw [gsG_nj (Or.inr (by decide)), gsG_nj (Or.inr (by decide))]; exact f2
            · rw [gsG_nj (Or.inr (by decide)), gsG_nj (Or.inr (by decide))]; exact f3
            · rw [gsG_nj (Or.inr (by decide)), gsG_nj (Or.inr (by decide))]; exact f4
            · rw [gsG_nj (Or.inr (by decide)), gsG_nj (Or.inr (by decide))]; exact f5
            · rw [gsG_nj (Or.inr (by decide)), gsG_nj (Or.inr (by decide))]; exact f6
            · rw [gsG_nj (Or.inr (by decide)), gsG_eq, la_A, if_pos (Or.inr c234)]
            · rw [gsG_eq, la_Z, if_pos (Or.inr c234)]
  have L162 : ∀ (x m : Nat) (am' N' : Nat → Nat) (S' : gS) (l5 : Int32), nd - m < x → m ≤ nd → va_nd (K ++ [(101 + 3 * t), (102 + 3 * t)]) = true → ((∀ k, k ≠ (101 + 3 * t) → k ≠ (102 + 3 * t) → am' k = am k) ∧ N' = va_up (va_up N (101 + 3 * t) nd) (102 + 3 * t) nd ∧ (∀ k j, k ≠ (100 + 3 * t) → S'.1 k j = S.1 k j) ∧ (∀ k, k ≠ (102 + 3 * t) → S'.2.1 k = S.2.1 k) ∧ (∀ k, k ≠ (101 + 3 * t) → S'.2.2.1 k = S.2.2.1 k) ∧ S'.2.2.2 = S.2.2.2 ∧ (S'.1 (100 + 3 * t) 0 = .int (nI kd) ∧ S'.1 (100 + 3 * t) 1 = .int n ∧ S'.1 (100 + 3 * t) 2 = .int (nI nd) ∧ S'.1 (100 + 3 * t) 3 = .ref (am' (101 + 3 * t)) ∧ S'.1 (100 + 3 * t) 4 = .ref (am' (102 + 3 * t)))) → (∀ h, h < nd → S'.2.2.1 (101 + 3 * t) h = some (am (100 + 3 * dr h))) → (∀ h, h < m → S'.2.1 (102 + 3 * t) h = nI (la_o (nI kd) (la_al dr al nd) (la_en (nI kd) (la_al dr al nd) dr al sz h) (al (dr h)))) → (S'.1 (100 + 3 * t) 5 = .int (nI (la_dp dr dp nd)) ∧ S'.1 (100 + 3 * t) 6 = .int (bo_l kd bz dr nd)) → EV (hc_π l D ks tl Z) (m_ty_init k 2 12) (ev_E (hc_π l D ks tl Z) 2 12 (fun r w => r = none ∧ ∃ am' N' S', w = gw (K ++ [(101 + 3 * t), (102 + 3 * t)]) am' ks N' S' ∧ tyQ am N S t kd nd n dr al sz dp bz am' N' S')) 2 (nd + nd) 162 [some (.ref (am' (100 + 3 * t))), some (.int (nI kd)), some (.int n), some (.ref (am' 2)), some (.int (nI nd)), some (.int l5), some (.int (nI (la_al dr al nd))), some (.int (bo_l kd bz dr nd)), some (.int (nI (la_en (nI kd) (la_al dr al nd) dr al sz m))), some (.int (nI m))] [] (gw (K ++ [(101 + 3 * t), (102 + 3 * t)]) am' ks N' S') := by
    intro x
    induction x with
    | zero => intro m _ _ _ _ z; omega
    | succ x ih =>
      intro m am' N' S' l5 hx hm hnd HB HP HO H56
      have HB0 := HB
      obtain ⟨q1, q2, q3, q4, q5, q6, ⟨f0, f1, f2, f3, f4⟩⟩ := HB
      have kT : (100 + 3 * t) ∈ (K ++ [(101 + 3 * t), (102 + 3 * t)]) := List.mem_append_left _ hk
      have kP : (101 + 3 * t) ∈ (K ++ [(101 + 3 * t), (102 + 3 * t)]) := List.mem_append_right _ List.mem_cons_self
      have kO : (102 + 3 * t) ∈ (K ++ [(101 + 3 * t), (102 + 3 * t)]) := List.mem_append_right _ (List.mem_cons_of_mem _ List.mem_cons_self)
      have nP : N' (101 + 3 * t) = nd := by rw [q2, va_up_ne _ _ (by omega), va_up_self]
      have nO : N' (102 + 3 * t) = nd := by rw [q2, va_up_self]
      have n2 : N' 2 = 6 := by rw [q2, va_up_ne _ _ (by omega), va_up_ne _ _ (by omega)]; exact hN2
      by_cases hlt : m < nd
      · obtain ⟨d1, d2, d3, d4, d5, d6, d7, d8, d9, d10⟩ := hD m hlt
        have sK : ∀ j, S'.1 (100 + 3 * dr m) j = S.1 (100 + 3 * dr m) j := fun j => q3 _ j (by omega)
        have kD : 100 + 3 * dr m ∈ (K ++ [(101 + 3 * t), (102 + 3 * t)]) := List.mem_append_left _ d3
        have gD := (gk_ty (dr m) (by omega)).1
        have aD : am' (100 + 3 * dr m) = am (100 + 3 * dr m) := q1 _ (by omega) (by omega)
        have hen := dEN m hm
        refine ev_iload_9 162 d_ty_init_162 ?_
        refine ev_iload_4 164 d_ty_init_164 ?_
        refine ev_icmpge 166 225 d_ty_init_166 (fun c166 => ?_) (fun c166 => ?_)
        · exact absurd (n_le nd m c166) (by omega)
        · refine ev_aload_0 169 d_ty_init_169 ?_
          refine gw_get 170 (100 + 3 * t) 4 d_ty_init_170 lk_ty_25 kT gT (.ref (am' (102 + 3 * t))) f4 ?_
          refine ev_iload_9 173 d_ty_init_173 ?_
          refine ev_iload_8 175 d_ty_init_175 ?_
          refine ev_iload_1 177 d_ty_init_177 ?_
          refine ev_iload_6 178 d_ty_init_178 ?_
          refine ev_aload_0 180 d_ty_init_180 ?_
          refine gw_get 181 (100 + 3 * t) 3 d_ty_init_181 lk_ty_21 kT gT (.ref (am' (101 + 3 * t))) f3 ?_
          refine ev_iload_9 184 d_ty_init_184 ?_
          refine gw_qld (j := m) 186 (101 + 3 * t) d_ty_init_186 kP gP (by rw [nP]; exact hlt) (by rw [nP]; omega) (some (am' (100 + 3 * dr m))) ((HP m hlt).trans (by rw [aD])) ?_
          refine gw_get 187 (100 + 3 * dr m) 7 d_ty_init_187 lk_ty_38 kD gD (.int (nI (al (dr m)))) ((sK 7).trans d6) ?_
          refine ev_callS 190 [.int (nI (la_en (nI kd) (la_al dr al nd) dr al sz m)), .int (nI kd), .int (nI (la_al dr al nd)), .int (nI (al (dr m)))] [.int (nI m), .ref (am' (102 + 3 * t))] d_ty_init_190 hZ (kc_ty_45 (k9 := 1) (mc9 := 0) (ms9 := 0)) (hr_of (by omega) (by decide) (by omega) (by omega)) (ht_ty_offsetBehind _ _ _ _ hZ hNw (by decide)) (fun r9 w9 hw => ?_)
          obtain ⟨x1, x2⟩ := hw
          subst x1
          subst x2
          rw [ob_la (by omega) d9 (by omega)]
          refine ev_eq (st' := [.int (nI (la_o (nI kd) (la_al dr al nd) (la_en (nI kd) (la_al dr al nd) dr al sz m) (al (dr m)))), .int (nI m), .ref (am' (102 + 3 * t))]) ?_
          refine gw_ist (j := m) 193 (102 + 3 * t) d_ty_init_193 hnd kO gO (by rw [nO]; exact hlt) (by rw [nO]; omega) ?_
          refine ev_iload_8 194 d_ty_init_194 ?_
          refine ev_aload_0 196 d_ty_init_196 ?_
          refine gw_get 197 (100 + 3 * t) 4 d_ty_init_197 lk_ty_25 kT gT (.ref (am' (102 + 3 * t))) f4 ?_
          refine ev_iload_9 200 d_ty_init_200 ?_
          refine gw_ild (j := m) 202 (102 + 3 * t) d_ty_init_202 kO gO (by rw [nO]; exact hlt) (by rw [nO]; omega) (nI (la_o (nI kd) (la_al dr al nd) (la_en (nI kd) (la_al dr al nd) dr al sz m) (al (dr m)))) (gsA_eq _ _ _ _) ?_
          refine ev_aload_0 203 d_ty_init_203 ?_
          refine gw_get 204 (100 + 3 * t) 3 d_ty_init_204 lk_ty_21 kT gT (.ref (am' (101 + 3 * t))) f3 ?_
          refine ev_iload_9 207 d_ty_init_207 ?_
          refine gw_qld (j := m) 209 (101 + 3 * t) d_ty_init_209 kP gP (by rw [nP]; exact hlt) (by rw [nP]; omega) (some (am' (100 + 3 * dr m))) ((HP m hlt).trans (by rw [aD])) ?_
          refine gw_get 210 (100 + 3 * dr m) 8 d_ty_init_210 lk_ty_49 kD gD (.int (nI (sz (dr m)))) ((sK 8).trans d7) ?_
          refine ev_iadd 213 d_ty_init_213 ?_
          refine ev_topi (nI ((la_o (nI kd) (la_al dr al nd) (la_en (nI kd) (la_al dr al nd) dr al sz m) (al (dr m))) + sz (dr m))) (nI_add _ _) ?_
          refine ev_mmax 214 d_ty_init_214 mw_ty_32 (show 1 ≤ k by omega) (show 0 + 13 ≤ 40 * k by omega) (show 2 ≤ 2 by omega) (show nd + nd ≤ 12 by omega) ?_
          refine ev_topi (nI (la_en (nI kd) (la_al dr al nd) dr al sz (m + 1))) (by rw [n_mx (by omega) (by have := la_o_le (k := nI kd) (LA := (la_al dr al nd)) (e := (la_en (nI kd) (la_al dr al nd) dr al sz m)) (dA8 m hlt).1 (dA8 m hlt).2 (dLA nd (Nat.le_refl _)).2; omega), la_enm d9]) ?_
          refine ev_istore_8 217 d_ty_init_217 ?_ (hn := by exact Nat.le_of_ble_eq_true rfl)
          refine ev_iinc_9 219 d_ty_init_219 ?_ (hn := by exact Nat.le_of_ble_eq_true rfl)
          refine ev_goto 222 162 d_ty_init_222 ?_
          exact ev_eq (ih (m + 1) am' N' (gsA S' (102 + 3 * t) m (nI (la_o (nI kd) (la_al dr al nd) (la_en (nI kd) (la_al dr al nd) dr al sz m) (al (dr m))))) l5 (by omega) (by omega) hnd ⟨q1, q2, q3, fun k hk9 => (up2_ne _ _ hk9).trans (q4 k hk9), q5, q6, ⟨f0, f1, f2, f3, f4⟩⟩ HP (fun h hh => by
            by_cases e : h = m
            · subst e; exact gsA_eq _ _ _ _
            · exact (gsA_nj _ _ _ _ (Or.inr e)).trans (HO h (by omega))) H56) (h1 := by rw [n_i1])
      · have em : m = nd := by omega
        subst em
        refine ev_iload_9 162 d_ty_init_162 ?_
        refine ev_iload_4 164 d_ty_init_164 ?_
        refine ev_icmpge 166 225 d_ty_init_166 (fun c166 => ?_) (fun c166 => ?_)
        · exact ev_eq (L225 am' N' S' l5 hnd HB0 HP HO H56)
        · exact absurd (Int32.le_refl _) c166
  have L59 : ∀ (x m : Nat) (am' N' : Nat → Nat) (S' : gS), nd - m < x → m ≤ nd → va_nd (K ++ [(101 + 3 * t), (102 + 3 * t)]) = true → ((∀ k, k ≠ (101 + 3 * t) → k ≠ (102 + 3 * t) → am' k = am k) ∧ N' = va_up (va_up N (101 + 3 * t) nd) (102 + 3 * t) nd ∧ (∀ k j, k ≠ (100 + 3 * t) → S'.1 k j = S.1 k j) ∧ (∀ k, k ≠ (102 + 3 * t) → S'.2.1 k = S.2.1 k) ∧ (∀ k, k ≠ (101 + 3 * t) → S'.2.2.1 k = S.2.2.1 k) ∧ S'.2.2.2 = S.2.2.2 ∧ (S'.1 (100 + 3 * t) 0 = .int (nI kd) ∧ S'.1 (100 + 3 * t) 1 = .int n ∧ S'.1 (100 + 3 * t) 2 = .int (nI nd) ∧ S'.1 (100 + 3 * t) 3 = .ref (am' (101 + 3 * t)) ∧ S'.1 (100 + 3 * t) 4 = .ref (am' (102 + 3 * t)))) → (∀ h, h < m → S'.2.2.1 (101 + 3 * t) h = some (am (100 + 3 * dr h))) → EV (hc_π l D ks tl Z) (m_ty_init k 2 12) (ev_E (hc_π l D ks tl Z) 2 12 (fun r w => r = none ∧ ∃ am' N' S', w = gw (K ++ [(101 + 3 * t), (102 + 3 * t)]) am' ks N' S' ∧ tyQ am N S t kd nd n dr al sz dp bz am' N' S')) 2 (nd + nd) 59 [some (.ref (am' (100 + 3 * t))), some (.int (nI kd)), some (.int n), some (.ref (am' 2)), some (.int (nI nd)), some (.int (nI (la_dp dr dp m - 1))), some (.int (nI (la_al dr al m))), some (.int (bo_l kd bz dr m)), some (.int (nI m)), none] [] (gw (K ++ [(101 + 3 * t), (102 + 3 * t)]) am' ks N' S') := by
    intro x
    induction x with
    | zero => intro m _ _ _ z; omega
    | succ x ih =>
      intro m am' N' S' hx hm hnd HB HP
      have HB0 := HB
      obtain ⟨q1, q2, q3, q4, q5, q6, ⟨f0, f1, f2, f3, f4⟩⟩ := HB
      have kT : (100 + 3 * t) ∈ (K ++ [(101 + 3 * t), (102 + 3 * t)]) := List.mem_append_left _ hk
      have kP : (101 + 3 * t) ∈ (K ++ [(101 + 3 * t), (102 + 3 * t)]) := List.mem_append_right _ List.mem_cons_self
      have kO : (102 + 3 * t) ∈ (K ++ [(101 + 3 * t), (102 + 3 * t)]) := List.mem_append_right _ (List.mem_cons_of_mem _ List.mem_cons_self)
      have nP : N' (101 + 3 * t) = nd := by rw [q2, va_up_ne _ _ (by omega), va_up_self]
      have nO : N' (102 + 3 * t) = nd := by rw [q2, va_up_self]
      have n2 : N' 2 = 6 := by rw [q2, va_up_ne _ _ (by omega), va_up_ne _ _ (by omega)]; exact hN2
      by_cases hlt : m < nd
      · obtain ⟨d1, d2, d3, d4, d5, d6, d7, d8, d9, d10⟩ := hD m hlt
        have sK : ∀ j, S'.1 (100 + 3 * dr m) j = S.1 (100 + 3 * dr m) j := fun j => q3 _ j (by omega)
        have kD : 100 + 3 * dr m ∈ (K ++ [(101 + 3 * t), (102 + 3 * t)]) := List.mem_append_left _ d3
        have gD := (gk_ty (dr m) (by omega)).1
        have aD : am' (100 + 3 * dr m) = am (100 + 3 * dr m) := q1 _ (by omega) (by omega)
        have hla := dLA m hm
        have hld := dLD m hm
        have hld1 := la_dp1 dr dp m
        have k2K : 2 ∈ (K ++ [(101 + 3 * t), (102 + 3 * t)]) := List.mem_append_left _ hk2
        have hg3 : (gsQ S' (101 + 3 * t) m (some (am' (100 + 3 * dr m)))).2.2.1 (101 + 3 * t) m = some (am' (100 + 3 * dr m)) := up2_eq _ _ _ _
        refine ev_iload_8 59 d_ty_init_59 ?_
        refine ev_iload_4 61 d_ty_init_61 ?_
        refine ev_icmpge 63 142 d_ty_init_63 (fun c63 => ?_) (fun c63 => ?_)
        · exact absurd (n_le nd m c63) (by omega)
        · refine ev_aload_0 66 d_ty_init_66 ?_
          refine gw_get 67 (100 + 3 * t) 3 d_ty_init_67 lk_ty_21 kT gT (.ref (am' (101 + 3 * t))) f3 ?_
          refine ev_iload_8 70 d_ty_init_70 ?_
          refine ev_aload_3 72 d_ty_init_72 ?_
          refine ev_iload_8 73 d_ty_init_73 ?_
          refine gw_qld (j := m) 75 2 d_ty_init_75 k2K rfl (by rw [n2]; omega) (by rw [n2]; decide) (some (am' (100 + 3 * dr m))) (by rw [q5 2 (by omega), d1, aD]) ?_
          refine gw_qst (j := m) (o := 100 + 3 * dr m) 76 (101 + 3 * t) d_ty_init_76 hnd kP gP (by rw [nP]; exact hlt) (by rw [nP]; omega) kD 1 gD (by decide) rfl ?_
          refine ev_iload_5 77 d_ty_init_77 ?_
          refine ev_aload_0 79 d_ty_init_79 ?_
          refine gw_get 80 (100 + 3 * t) 3 d_ty_init_80 lk_ty_21 kT gT (.ref (am' (101 + 3 * t))) f3 ?_
          refine ev_iload_8 83 d_ty_init_83 ?_
          refine gw_qld (j := m) 85 (101 + 3 * t) d_ty_init_85 kP gP (by rw [nP]; exact hlt) (by rw [nP]; omega) (some (am' (100 + 3 * dr m))) hg3 ?_
          refine gw_get 86 (100 + 3 * dr m) 5 d_ty_init_86 lk_ty_29 kD gD (.int (nI (dp (dr m)))) ((sK 5).trans d4) ?_
          refine ev_mmax 89 d_ty_init_89 mw_ty_32 (show 1 ≤ k by omega) (show 0 + 13 ≤ 40 * k by omega) (show 2 ≤ 2 by omega) (show nd + nd ≤ 12 by omega) ?_
          refine ev_topi (nI (la_dp dr dp (m + 1) - 1)) (by rw [n_mx (by omega) (by omega), la_dpm]) ?_
          refine ev_istore_5 92 d_ty_init_92 ?_ (hn := by exact Nat.le_of_ble_eq_true rfl)
          refine ev_iload_6 94 d_ty_init_94 ?_
          refine ev_aload_0 96 d_ty_init_96 ?_
          refine gw_get 97 (100 + 3 * t) 3 d_ty_init_97 lk_ty_21 kT gT (.ref (am' (101 + 3 * t))) f3 ?_
          refine ev_iload_8 100 d_ty_init_100 ?_
          refine gw_qld (j := m) 102 (101 + 3 * t) d_ty_init_102 kP gP (by rw [nP]; exact hlt) (by rw [nP]; omega) (some (am' (100 + 3 * dr m))) hg3 ?_
          refine gw_get 103 (100 + 3 * dr m) 7 d_ty_init_103 lk_ty_38 kD gD (.int (nI (al (dr m)))) ((sK 7).trans d6) ?_
          refine ev_mmax 106 d_ty_init_106 mw_ty_32 (show 1 ≤ k by omega) (show 0 + 13 ≤ 40 * k by omega) (show 2 ≤ 2 by omega) (show nd + nd ≤ 12 by omega) ?_
          refine ev_topi (nI (la_al dr al (m + 1))) (by rw [n_mx (by omega) (by have := dA8 m hlt; omega), la_alm]) ?_
          refine ev_istore_6 109 d_ty_init_109 ?_ (hn := by exact Nat.le_of_ble_eq_true rfl)
          refine ev_iload_7 111 d_ty_init_111 ?_
          refine ev_ifne 113 129 d_ty_init_113 (fun c113 => ?_) (fun c113 => ?_)
          · refine ev_iconst_1 129 d_ty_init_129 ?_
            refine ev_goto 130 134 d_ty_init_130 ?_
            refine ev_istore_7 134 d_ty_init_134 ?_ (hn := by exact Nat.le_of_ble_eq_true rfl)
            refine ev_iinc_8 136 d_ty_init_136 ?_ (hn := by exact Nat.le_of_ble_eq_true rfl)
            refine ev_goto 139 59 d_ty_init_139 ?_
            exact ev_eq (ih (m + 1) am' N' (gsQ S' (101 + 3 * t) m (some (am' (100 + 3 * dr m)))) (by omega) (by omega) hnd ⟨q1, q2, q3, q4, fun k hk9 => (up2_ne _ _ hk9).trans (q5 k hk9), q6, ⟨f0, f1, f2, f3, f4⟩⟩ (fun h hh => by
              by_cases e : h = m
              · subst e; rw [hg3, aD]
              · exact (up2_nj _ _ (Or.inr e)).trans (HP h (by omega)))) (h1 := by rw [n_i1, bo_l, if_pos (Or.inl c113)])
          · refine ev_aload_0 116 d_ty_init_116 ?_
            refine gw_get 117 (100 + 3 * t) 3 d_ty_init_117 lk_ty_21 kT gT (.ref (am' (101 + 3 * t))) f3 ?_
            refine ev_iload_8 120 d_ty_init_120 ?_
            refine gw_qld (j := m) 122 (101 + 3 * t) d_ty_init_122 kP gP (by rw [nP]; exact hlt) (by rw [nP]; omega) (some (am' (100 + 3 * dr m))) hg3 ?_
            refine gw_get 123 (100 + 3 * dr m) 6 d_ty_init_123 lk_ty_41 kD gD (.int (bz (dr m))) ((sK 6).trans d5) ?_
            refine ev_ifeq 126 133 d_ty_init_126 (fun c126 => ?_) (fun c126 => ?_)
            · refine ev_iconst_0 133 d_ty_init_133 ?_
              refine ev_istore_7 134 d_ty_init_134 ?_ (hn := by exact Nat.le_of_ble_eq_true rfl)
              refine ev_iinc_8 136 d_ty_init_136 ?_ (hn := by exact Nat.le_of_ble_eq_true rfl)
              refine ev_goto 139 59 d_ty_init_139 ?_
              exact ev_eq (ih (m + 1) am' N' (gsQ S' (101 + 3 * t) m (some (am' (100 + 3 * dr m)))) (by omega) (by omega) hnd ⟨q1, q2, q3, q4, fun k hk9 => (up2_ne _ _ hk9).trans (q5 k hk9), q6, ⟨f0, f1, f2, f3, f4⟩⟩ (fun h hh => by
                by_cases e : h = m
                · subst e; rw [hg3, aD]
                · exact (up2_nj _ _ (Or.inr e)).trans (HP h (by omega)))) (h1 := by rw [n_i1, bo_l, if_neg (fun z => z.elim (fun y => y c113) (fun y => y c126))])
            · refine ev_iconst_1 129 d_ty_init_129 ?_
              refine ev_goto 130 134 d_ty_init_130 ?_
              refine ev_istore_7 134 d_ty_init_134 ?_ (hn := by exact Nat.le_of_ble_eq_true rfl)
              refine ev_iinc_8 136 d_ty_init_136 ?_ (hn := by exact Nat.le_of_ble_eq_true rfl)
              refine ev_goto 139 59 d_ty_init_139 ?_
              exact ev_eq (ih (m + 1) am' N' (gsQ S' (101 + 3 * t) m (some (am' (100 + 3 * dr m)))) (by omega) (by omega) hnd ⟨q1, q2, q3, q4, fun k hk9 => (up2_ne _ _ hk9).trans (q5 k hk9), q6, ⟨f0, f1, f2, f3, f4⟩⟩ (fun h hh => by
                by_cases e : h = m
                · subst e; rw [hg3, aD]
                · exact (up2_nj _ _ (Or.inr e)).trans (HP h (by omega)))) (h1 := by rw [n_i1, bo_l, if_pos (Or.inr c126)])
      · have em : m = nd := by omega
        subst em
        have hld := dLD m (Nat.le_refl _)
        have hld1 := la_dp1 dr dp m
        refine ev_iload_8 59 d_ty_init_59 ?_
        refine ev_iload_4 61 d_ty_init_61 ?_
        refine ev_icmpge 63 142 d_ty_init_63 (fun c63 => ?_) (fun c63 => ?_)
        · refine ev_aload_0 142 d_ty_init_142 ?_
          refine ev_iload_5 143 d_ty_init_143 ?_
          refine ev_iconst_1 145 d_ty_init_145 ?_
          refine ev_iadd 146 d_ty_init_146 ?_
          refine ev_topi (nI (la_dp dr dp m)) ((nI_1 _).trans (by rw [show la_dp dr dp m - 1 + 1 = la_dp dr dp m by omega])) ?_
          refine gw_putF 147 (100 + 3 * t) 5 d_ty_init_147 lf_ty_29 rfl hnd kT gT (vp_nar_int _) rfl ?_
          refine ev_aload_0 150 d_ty_init_150 ?_
          refine ev_iload_7 151 d_ty_init_151 ?_
          refine gw_putF 153 (100 + 3 * t) 6 d_ty_init_153 lf_ty_41 rfl hnd kT gT (bo_nar _ _ _ _) (bo_fit _ _ _ _) ?_
          refine ev_iconst_0 156 d_ty_init_156 ?_
          refine ev_istore_8 157 d_ty_init_157 ?_ (hn := by exact Nat.le_of_ble_eq_true rfl)
          refine ev_iconst_0 159 d_ty_init_159 ?_
          refine ev_istore_9 160 d_ty_init_160 ?_ (hn := by exact Nat.le_of_ble_eq_true rfl)
          refine ev_eq (L162 (m + 1) 0 am' N' (gsG (gsG S' (100 + 3 * t) 5 (.int (nI (la_dp dr dp m)))) (100 + 3 * t) 6 (.int (bo_l kd bz dr m))) _ (by omega) (by omega) hnd ⟨q1, q2, fun k j hk9 => ?_, q4, q5, q6, ⟨?_, ?_, ?_, ?_, ?_⟩⟩ HP (fun h hh => absurd hh (Nat.not_lt_zero h)) ⟨?_, ?_⟩)
          · rw [gsG_nj (Or.inl hk9), gsG_nj (Or.inl hk9)]; exact q3 k j hk9
          · rw [gsG_nj (Or.inr (by decide)), gsG_nj (Or.inr (by decide))]; exact f0
          · rw [gsG_nj (Or.inr (by decide)), gsG_nj (Or.inr (by decide))]; exact f1
          · rw [gsG_nj (Or.inr (by decide)), gsG_nj (Or.inr (by decide))]; exact f2
          · rw [gsG_nj (Or.inr (by decide)), gsG_nj (Or.inr (by decide))]; exact f3
          · rw [gsG_nj (Or.inr (by decide)), gsG_nj (Or.inr (by decide))]; exact f4
          · rw [gsG_nj (Or.inr (by decide))]; exact gsG_eq _ _ _ _
          · exact gsG_eq _ _ _ _
        · exact absurd (Int32.le_refl _) c63
  refine ev_aload_0 0 d_ty_init_0 ?_
  refine ev_obj 1 d_ty_init_1 ob_ty oi_w oc_w (show 1 ≤ k by omega) (show 20 ≤ 40 * k by omega) ?_
  refine ev_aload_0 4 d_ty_init_4 ?_
  refine ev_iload_1 5 d_ty_init_5 ?_
  refine gw_putF 6 (100 + 3 * t) 0 d_ty_init_6 lf_ty_9 rfl hN hk gT (vp_nar_int _) rfl ?_
  refine ev_aload_0 9 d_ty_init_9 ?_
  refine ev_iload_2 10 d_ty_init_10 ?_
  refine gw_putF 11 (100 + 3 * t) 1 d_ty_init_11 lf_ty_15 rfl hN hk gT (vp_nar_int _) rfl ?_
  refine ev_aload_0 14 d_ty_init_14 ?_
  refine ev_iload_4 15 d_ty_init_15 ?_
  refine gw_putF 17 (100 + 3 * t) 2 d_ty_init_17 lf_ty_18 rfl hN hk gT (vp_nar_int _) rfl ?_
  refine ev_aload_0 20 d_ty_init_20 ?_
  refine ev_iload_4 21 d_ty_init_21 ?_
  refine gw_newQ (n := nd) (c := 21) 23 (101 + 3 * t) d_ty_init_23 cw_ty_10 (fun s z => (hAO s z).1) hP9 gP (by omega) (show 0 + 1 ≤ 2 by omega) (show 0 + nd ≤ 12 by omega) (fun w1 => ?_)
  have hnd1 : va_nd (K ++ [(101 + 3 * t)]) = true := nd_app hN hP9
  obtain ⟨am1, hm1⟩ : ∃ am1, am1 = va_up am (101 + 3 * t) w1 := ⟨_, rfl⟩
  rw [← hm1]
  have a1 : ∀ k, k ≠ (101 + 3 * t) → am1 k = am k := fun k hk => by rw [hm1, va_up_ne _ _ hk]
  have a2 : am1 (101 + 3 * t) = w1 := by rw [hm1, va_up_self]
  have k0 : (100 + 3 * t) ∈ K ++ [(101 + 3 * t)] := List.mem_append_left _ hk
  refine ev_eq (lv' := [some (.ref (am1 (100 + 3 * t))), some (.int (nI kd)), some (.int n), some (.ref (am1 2)), some (.int (nI nd)), none, none, none, none, none]) (st' := [.ref (am1 (101 + 3 * t)), .ref (am1 (100 + 3 * t))]) ?_ (h1 := by rw [a1 (100 + 3 * t) (by omega), a1 2 (by omega)]) (h2 := by rw [a1 (100 + 3 * t) (by omega), a2])
  refine gw_putF 26 (100 + 3 * t) 3 d_ty_init_26 lf_ty_21 rfl hnd1 k0 gT rfl rfl ?_
  refine ev_aload_0 29 d_ty_init_29 ?_
  refine ev_iload_4 30 d_ty_init_30 ?_
  have k2n : (102 + 3 * t) ∉ K ++ [(101 + 3 * t)] := fun z => (List.mem_append.mp z).elim hO9 (fun y => by rw [List.mem_singleton] at y; omega)
  refine gw_newI (n := nd) 32 (102 + 3 * t) d_ty_init_32 ac_int k2n gO (by omega) (show 0 + 1 + 1 ≤ 2 by omega) (show 0 + nd + nd ≤ 12 by omega) (fun w2 => ?_)
  rw [List.append_assoc]
  have hnd2 : va_nd (K ++ ([(101 + 3 * t)] ++ [(102 + 3 * t)])) = true := by rw [← List.append_assoc]; exact nd_app hnd1 k2n
  obtain ⟨am2, hm2⟩ : ∃ am2, am2 = va_up am1 (102 + 3 * t) w2 := ⟨_, rfl⟩
  rw [← hm2]
  have b1 : ∀ k, k ≠ (102 + 3 * t) → am2 k = am1 k := fun k hk => by rw [hm2, va_up_ne _ _ hk]
  have b2 : am2 (102 + 3 * t) = w2 := by rw [hm2, va_up_self]
  have k0 : (100 + 3 * t) ∈ K ++ ([(101 + 3 * t)] ++ [(102 + 3 * t)]) := List.mem_append_left _ hk
  refine ev_eq (lv' := [some (.ref (am2 (100 + 3 * t))), some (.int (nI kd)), some (.int n), some (.ref (am2 2)), some (.int (nI nd)), none, none, none, none, none]) (st' := [.ref (am2 (102 + 3 * t)), .ref (am2 (100 + 3 * t))]) ?_ (h1 := by rw [b1 (100 + 3 * t) (by omega), b1 2 (by omega)]) (h2 := by rw [b1 (100 + 3 * t) (by omega), b2])
  refine gw_putF 34 (100 + 3 * t) 4 d_ty_init_34 lf_ty_25 rfl hnd2 k0 gT rfl rfl ?_
  refine ev_iconst_0 37 d_ty_init_37 ?_
  refine ev_istore_5 38 d_ty_init_38 ?_ (hn := by exact Nat.le_of_ble_eq_true rfl)
  refine ev_iconst_1 40 d_ty_init_40 ?_
  refine ev_istore_6 41 d_ty_init_41 ?_ (hn := by exact Nat.le_of_ble_eq_true rfl)
  refine ev_iload_1 43 d_ty_init_43 ?_
  refine ev_bipush (12) 44 d_ty_init_44 (by decide) ?_
  refine ev_icmpne 46 53 d_ty_init_46 (fun c46 => ?_) (fun c46 => ?_)
  · refine ev_iconst_0 53 d_ty_init_53 ?_
    refine ev_istore_7 54 d_ty_init_54 ?_ (hn := by exact Nat.le_of_ble_eq_true rfl)
    refine ev_iconst_0 56 d_ty_init_56 ?_
    refine ev_istore_8 57 d_ty_init_57 ?_ (hn := by exact Nat.le_of_ble_eq_true rfl)
    refine ev_wd (show 0 + 1 + 1 ≤ 2 by omega) (show 0 + nd + nd ≤ nd + nd by omega) ?_
    refine ev_eq (L59 (nd + 1) 0 am2 _ (gsG (gsAn (gsG (gsQn (gsG (gsG (gsG S (100 + 3 * t) 0 (.int (nI kd))) (100 + 3 * t) 1 (.int n)) (100 + 3 * t) 2 (.int (nI nd))) (101 + 3 * t)) (100 + 3 * t) 3 (.ref (am1 (101 + 3 * t)))) (102 + 3 * t)) (100 + 3 * t) 4 (.ref (am2 (102 + 3 * t)))) (by omega) (by omega) hnd2 ⟨fun k k1 k2 => ?_, rfl, fun k j hk9 => ?_, fun k hk9 => ?_, fun k hk9 => ?_, rfl, ⟨?_, ?_, ?_, ?_, ?_⟩⟩ (fun h hh => absurd hh (Nat.not_lt_zero h))) (h1 := by rw [bo_l, if_neg (fun z => c46 (by rw [z]; rfl))] <;> rfl)
    · rw [b1 k k2, a1 k k1]
    · rw [gsG_nj (Or.inl hk9)]
      show (gsG (gsQn (gsG (gsG (gsG S (100 + 3 * t) 0 _) (100 + 3 * t) 1 _) (100 + 3 * t) 2 _) (101 + 3 * t)) (100 + 3 * t) 3 _).1 k j = _
      rw [gsG_nj (Or.inl hk9)]
      show (gsG (gsG (gsG S (100 + 3 * t) 0 _) (100 + 3 * t) 1 _) (100 + 3 * t) 2 _).1 k j = _
      rw [gsG_nj (Or.inl hk9), gsG_nj (Or.inl hk9), gsG_nj (Or.inl hk9)]
    · show va_up S.2.1 (102 + 3 * t) _ k = _
      rw [va_up_ne _ _ hk9]
    · show va_up S.2.2.1 (101 + 3 * t) _ k = _
      rw [va_up_ne _ _ hk9]
    · rw [gsG_nj (Or.inr (by decide))]
      show (gsG (gsQn (gsG (gsG (gsG S (100 + 3 * t) 0 _) (100 + 3 * t) 1 _) (100 + 3 * t) 2 _) (101 + 3 * t)) (100 + 3 * t) 3 _).1 (100 + 3 * t) 0 = _
      rw [gsG_nj (Or.inr (by decide))]
      show (gsG (gsG (gsG S (100 + 3 * t) 0 _) (100 + 3 * t) 1 _) (100 + 3 * t) 2 _).1 (100 + 3 * t) 0 = _
      rw [gsG_nj (Or.inr (by decide)), gsG_nj (Or.inr (by decide))]
      exact gsG_eq _ _ _ _
    · rw [gsG_nj (Or.inr (by decide))]
      show (gsG (gsQn (gsG (gsG (gsG S (100 + 3 * t) 0 _) (100 + 3 * t) 1 _) (100 + 3 * t) 2 _) (101 + 3 * t)) (100 + 3 * t) 3 _).1 (100 + 3 * t) 1 = _
      rw [gsG_nj (Or.inr (by decide))]
      show (gsG (gsG (gsG S (100 + 3 * t) 0 _) (100 + 3 * t) 1 _) (100 + 3 * t) 2 _).1 (100 + 3 * t) 1 = _
      rw [gsG_nj (Or.inr (by decide))]
      exact gsG_eq _ _ _ _
    · rw [gsG_nj (Or.inr (by decide))]
      show (gsG (gsQn (gsG (gsG (gsG S (100 + 3 * t) 0 _) (100 + 3 * t) 1 _) (100 + 3 * t) 2 _) (101 + 3 * t)) (100 + 3 * t) 3 _).1 (100 + 3 * t) 2 = _
      rw [gsG_nj (Or.inr (by decide))]
      exact gsG_eq _ _ _ _
    · rw [gsG_nj (Or.inr (by decide)), b1 _ (by omega)]
      exact gsG_eq _ _ _ _
    · exact gsG_eq _ _ _ _
  · refine ev_iconst_1 49 d_ty_init_49 ?_
    refine ev_goto 50 54 d_ty_init_50 ?_
    refine ev_istore_7 54 d_ty_init_54 ?_ (hn := by exact Nat.le_of_ble_eq_true rfl)
    refine ev_iconst_0 56 d_ty_init_56 ?_
    refine ev_istore_8 57 d_ty_init_57 ?_ (hn := by exact Nat.le_of_ble_eq_true rfl)
    refine ev_wd (show 0 + 1 + 1 ≤ 2 by omega) (show 0 + nd + nd ≤ nd + nd by omega) ?_
    refine ev_eq (L59 (nd + 1) 0 am2 _ (gsG (gsAn (gsG (gsQn (gsG (gsG (gsG S (100 + 3 * t) 0 (.int (nI kd))) (100 + 3 * t) 1 (.int n)) (100 + 3 * t) 2 (.int (nI nd))) (101 + 3 * t)) (100 + 3 * t) 3 (.ref (am1 (101 + 3 * t)))) (102 + 3 * t)) (100 + 3 * t) 4 (.ref (am2 (102 + 3 * t)))) (by omega) (by omega) hnd2 ⟨fun k k1 k2 => ?_, rfl, fun k j hk9 => ?_, fun k hk9 => ?_, fun k hk9 => ?_, rfl, ⟨?_, ?_, ?_, ?_, ?_⟩⟩ (fun h hh => absurd hh (Nat.not_lt_zero h))) (h1 := by rw [bo_l, if_pos (n_eq kd 12 c46)] <;> rfl)
    · rw [b1 k k2, a1 k k1]
    · rw [gsG_nj (Or.inl hk9)]
      show (gsG (gsQn (gsG (gsG (gsG S (100 + 3 * t) 0 _) (100 + 3 * t) 1 _) (100 + 3 * t) 2 _) (101 + 3 * t)) (100 + 3 * t) 3 _).1 k j = _
      rw [gsG_nj (Or.inl hk9)]
      show (gsG (gsG (gsG S (100 + 3 * t) 0 _) (100 + 3 * t) 1 _) (100 + 3 * t) 2 _).1 k j = _
      rw [gsG_nj (Or.inl hk9), gsG_nj (Or.inl hk9), gsG_nj (Or.inl hk9)]
    · show va_up S.2.1 (102 + 3 * t) _ k = _
      rw [va_up_ne _ _ hk9]
    · show va_up S.2.2.1 (101 + 3 * t) _ k = _
      rw [va_up_ne _ _ hk9]
    · rw [gsG_nj (Or.inr (by decide))]
      show (gsG (gsQn (gsG (gsG (gsG S (100 + 3 * t) 0 _) (100 + 3 * t) 1 _) (100 + 3 * t) 2 _) (101 + 3 * t)) (100 + 3 * t) 3 _).1 (100 + 3 * t) 0 = _
      rw [gsG_nj (Or.inr (by decide))]
      show (gsG (gsG (gsG S (100 + 3 * t) 0 _) (100 + 3 * t) 1 _) (100 + 3 * t) 2 _).1 (100 + 3 * t) 0 = _
      rw [gsG_nj (Or.inr (by decide)), gsG_nj (Or.inr (by decide))]
      exact gsG_eq _ _ _ _
    · rw [gsG_nj (Or.inr (by decide))]
      show (gsG (gsQn (gsG (gsG (gsG S (100 + 3 * t) 0 _) (100 + 3 * t) 1 _) (100 + 3 * t) 2 _) (101 + 3 * t)) (100 + 3 * t) 3 _).1 (100 + 3 * t) 1 = _
      rw [gsG_nj (Or.inr (by decide))]
      show (gsG (gsG (gsG S (100 + 3 * t) 0 _) (100 + 3 * t) 1 _) (100 + 3 * t) 2 _).1 (100 + 3 * t) 1 = _
      rw [gsG_nj (Or.inr (by decide))]
      exact gsG_eq _ _ _ _
    · rw [gsG_nj (Or.inr (by decide))]
      show (gsG (gsQn (gsG (gsG (gsG S (100 + 3 * t) 0 _) (100 + 3 * t) 1 _) (100 + 3 * t) 2 _) (101 + 3 * t)) (100 + 3 * t) 3 _).1 (100 + 3 * t) 2 = _
      rw [gsG_nj (Or.inr (by decide))]
      exact gsG_eq _ _ _ _
    · rw [gsG_nj (Or.inr (by decide)), b1 _ (by omega)]
      exact gsG_eq _ _ _ _
    · exact gsG_eq _ _ _ _
