/-! writing: bytes, one by one -/
def wz (S : gS) (q a : Nat) : Nat → gS
  | 0 => S
  | j + 1 => gsA (wz S q a j) q (a + j) 0
theorem wz_at (S : gS) (q a x : Nat) : ∀ k, (wz S q a k).2.1 q x = if a ≤ x ∧ x < a + k then 0 else S.2.1 q x := by
  intro k
  induction k with
  | zero => rw [if_neg (by omega)]; rfl
  | succ k ih =>
    by_cases e : x = a + k
    · subst e
      rw [if_pos (by omega), wz]
      exact gsA_eq _ _ _ _
    · rw [wz, gsA_nj _ _ _ _ (Or.inr e), ih]
      by_cases c : a ≤ x ∧ x < a + k
      · rw [if_pos c, if_pos (by omega)]
      · rw [if_neg c, if_neg (by omega)]
theorem wz_ne (S : gS) (q a : Nat) {p : Nat} (h : p ≠ q) : ∀ k, (wz S q a k).2.1 p = S.2.1 p := by
  intro k
  induction k with
  | zero => rfl
  | succ k ih => rw [wz]; exact (up2_ne _ _ h).trans ih
theorem wz_1 (S : gS) (q a : Nat) : ∀ k, (wz S q a k).1 = S.1 ∧ (wz S q a k).2.2 = S.2.2 := by
  intro k
  induction k with
  | zero => exact ⟨rfl, rfl⟩
  | succ k ih => exact ih
theorem zf_at (f : Nat → Int32) (b x : Nat) : ∀ k, mo_zf f b k x = if b ≤ x ∧ x < b + k then 0 else f x := by
  intro k
  induction k with
  | zero => rw [if_neg (by omega)]; rfl
  | succ k ih =>
    rw [mo_zf]
    by_cases e : x = b + k
    · subst e; rw [upd_eq, if_pos (by omega)]
    · rw [upd_ne e, ih]
      by_cases c : b ≤ x ∧ x < b + k
      · rw [if_pos c, if_pos (by omega)]
      · rw [if_neg c, if_neg (by omega)]
theorem hsb_at (S : gS) (q a x : Nat) (w : Int64) : ∀ k, (hb_sb S q a w k).2.1 q x = if a ≤ x ∧ x < a + k then hb_by w (x - a) else S.2.1 q x := by
  intro k
  induction k with
  | zero => rw [if_neg (by omega)]; rfl
  | succ k ih =>
    by_cases e : x = a + k
    · subst e
      rw [if_pos (by omega), hb_sb, show a + k - a = k by omega]
      exact gsA_eq _ _ _ _
    · rw [hb_sb, gsA_nj _ _ _ _ (Or.inr e), ih]
      by_cases c : a ≤ x ∧ x < a + k
      · rw [if_pos c, if_pos (by omega)]
      · rw [if_neg c, if_neg (by omega)]
theorem hsb_ne (S : gS) (q a : Nat) (w : Int64) {p : Nat} (h : p ≠ q) : ∀ k, (hb_sb S q a w k).2.1 p = S.2.1 p := by
  intro k
  induction k with
  | zero => rfl
  | succ k ih => rw [hb_sb]; exact (up2_ne _ _ h).trans ih
theorem hsb_1 (S : gS) (q a : Nat) (w : Int64) : ∀ k, (hb_sb S q a w k).1 = S.1 ∧ (hb_sb S q a w k).2.2 = S.2.2 := by
  intro k
  induction k with
  | zero => exact ⟨rfl, rfl⟩
  | succ k ih => exact ih
theorem pb_at (f : Nat → Int32) (b x : Nat) (v : Int32) : ∀ k, mo_pb f b v k x = if b ≤ x ∧ x < b + k then (v >>> ((8 * nI (x - b)) &&& 31)) &&& 255 else f x := by
  intro k
  induction k with
  | zero => rw [if_neg (by omega)]; rfl
  | succ k ih =>
    rw [mo_pb]
    by_cases e : x = b + k
    · subst e; rw [upd_eq, if_pos (by omega), show b + k - b = k by omega]
    · rw [upd_ne e, ih]
      by_cases c : b ≤ x ∧ x < b + k
      · rw [if_pos c, if_pos (by omega)]
      · rw [if_neg c, if_neg (by omega)]
theorem cp_at (f : Nat → Int32) (a b x : Nat) : ∀ k, (a + k ≤ b ∨ b + k ≤ a) → mo_cp f a b k x = if b ≤ x ∧ x < b + k then f (a + (x - b)) else f x := by
  intro k
  induction k generalizing x with
  | zero => intro _; rw [if_neg (by omega)]; rfl
  | succ k ih =>
    intro h
    rw [mo_cp]
    by_cases e : x = b + k
    · subst e
      rw [upd_eq, ih (a + k) (by omega), if_neg (by omega), if_pos (by omega), show b + k - b = k by omega]
    · rw [upd_ne e, ih x (by omega)]
      by_cases c : b ≤ x ∧ x < b + k
      · rw [if_pos c, if_pos (by omega)]
      · rw [if_neg c, if_neg (by omega)]
theorem pb_v {v j : Nat} (hv : v < 2147483648) (hj : j < 4) : (nI v >>> ((8 * nI j) &&& 31)) &&& 255 = nI (v / 256 ^ j % 256) := by
  have es : ((8 * nI j) &&& 31) = Int32.ofNat (8 * j) := by
    obtain rfl | rfl | rfl | rfl : j = 0 ∨ j = 1 ∨ j = 2 ∨ j = 3 := by omega
    all_goals decide
  rw [es, by_256]
  apply Int32.toBitVec_inj.mp
  apply BitVec.eq_of_toNat_eq
  rw [Int32.toBitVec_and, Int32.toBitVec_shiftRight, BitVec.toNat_and]
  have e2 : ((Int32.ofNat (8 * j)).toBitVec.smod 32).toNat = 8 * j := by
    obtain rfl | rfl | rfl | rfl : j = 0 ∨ j = 1 ∨ j = 2 ∨ j = 3 := by omega
    all_goals decide
  have e3 : ((nI v).toBitVec.sshiftRight' ((Int32.ofNat (8 * j)).toBitVec.smod 32)).toNat = v / 2 ^ (8 * j) := by
    have hm : (nI v).toBitVec.msb = false := by
      rw [BitVec.msb_eq_false_iff_two_mul_lt, by_i, BitVec.toNat_ofNat]
      omega
    rw [BitVec.sshiftRight_eq', BitVec.sshiftRight_eq_of_msb_false hm, e2, BitVec.toNat_ushiftRight, by_i, BitVec.toNat_ofNat, Nat.shiftRight_eq_div_pow, Nat.mod_eq_of_lt (by omega)]
  rw [e3, by_i, BitVec.toNat_ofNat]
  show v / 2 ^ (8 * j) &&& (2 ^ 8 - 1) = _
  rw [Nat.and_two_pow_sub_one_eq_mod]
  have : v / 2 ^ (8 * j) % 256 < 256 := Nat.mod_lt _ (by decide)
  omega
/-- the bytes of a number, one by one -/
theorem by_dg {B : Nat → Nat → Int32} (h8 : mo_b8 B) {i : Nat} (hi : i < 6) {p : Int32} {j : Nat} : ∀ n, mo_rg p n = none → j < n → by_w B i p n / 256 ^ j % 256 = bb B i (p + nI j) := by
  intro n
  induction n with
  | zero => intro _ h; omega
  | succ n ih =>
    intro hr hj
    obtain ⟨h1, h2⟩ := rg_in hr
    have b1 := by_lt h8 hi n h1
    have b2 := (bb_p h8 hi h2).1
    rw [by_w]
    by_cases e : j = n
    · subst e
      rw [Nat.add_mul_div_right _ _ (Nat.pow_pos (by decide)), Nat.div_eq_of_lt b1, Nat.zero_add, Nat.mod_eq_of_lt b2]
    · have hlt : j < n := by omega
      rw [← ih h1 hlt]
      have e1 : 256 ^ n = 256 ^ j * (256 * 256 ^ (n - j - 1)) := by
        rw [← Nat.pow_succ', ← Nat.pow_add]
        congr 1
        omega
      rw [e1, show bb B i (p + nI n) * (256 ^ j * (256 * 256 ^ (n - j - 1))) = 256 ^ j * (256 * (bb B i (p + nI n) * 256 ^ (n - j - 1))) by
        rw [Nat.mul_left_comm, Nat.mul_left_comm (bb B i (p + nI n))], Nat.add_mul_div_left _ _ (Nat.pow_pos (by decide)), Nat.add_mul_mod_self_left]
theorem fr_eq {B : Nat → Nat → Int32} {ho : Nat → Nat} {J : Nat} (h : ∀ j, j < 16 → (ho j = 0 ↔ B 16 (17 * J + j + 1) = 0)) : ∀ n, n ≤ 16 → hh_fr ho n = mo_fh (B 16) (17 * J) n := by
  intro n
  induction n with
  | zero => intro _; rfl
  | succ n ih =>
    intro hn
    rw [hh_fr, mo_fh, ih (by omega)]
    have e := h (16 - (n + 1)) (by omega)
    rw [show 17 * J + (16 - (n + 1)) + 1 = 17 * J + (16 - n) by omega] at e
    by_cases c : ho (16 - (n + 1)) = 0
    · rw [if_pos c, if_pos (e.mp c)]; omega
    · rw [if_neg c, if_neg (fun z => c (e.mpr z))]
theorem wl_1 {ii J k : Nat} {F : Nat → Int32} {B : Nat → Nat → Int32} (h : F 54 = 0) : wl ii J 1 k F B = wi_1 F B ii J k (B 44 k).toNatClampNeg (wi_to B k).toNatClampNeg := by
  rw [wl, if_pos h]
  rfl
theorem wl_st {ii J : Nat} : ∀ (b k : Nat) (F : Nat → Int32) (B : Nat → Nat → Int32), ¬ F 54 = 0 → wl ii J b k F B = (F, B) := by
  intro b k F B h
  cases b with
  | zero => rfl
  | succ b => rw [wl, if_neg h]
theorem wl_ad {ii J : Nat} : ∀ (a b k : Nat) (F : Nat → Int32) (B : Nat → Nat → Int32), wl ii J (a + b) k F B = wl ii J b (k + a) (wl ii J a k F B).1 (wl ii J a k F B).2 := by
  intro a
  induction a with
  | zero => intro b k F B; rw [Nat.zero_add, Nat.add_zero]; rfl
  | succ a ih =>
    intro b k F B
    by_cases h : F 54 = 0
    · rw [show a + 1 + b = (a + b) + 1 by omega, wl, if_pos h, ih, wl, if_pos h, show k + 1 + a = k + (a + 1) by omega]
    · rw [wl_st _ _ _ _ h, wl_st _ _ _ _ h, wl_st _ _ _ _ h]
