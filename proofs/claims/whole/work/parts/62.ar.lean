/-! bits and bytes -/
theorem ar_and (x : Int32) (k : Nat) (m : Int32) (hm : m.toBitVec = BitVec.ofNat 32 (2 ^ k - 1)) (hk : k ≤ 8) : x &&& m = 0 ↔ x.toBitVec.toNat % 2 ^ k = 0 := by
  have h1 : 2 ^ k - 1 < 2 ^ 32 := by
    have : 2 ^ k ≤ 2 ^ 8 := Nat.pow_le_pow_right (by decide) hk
    omega
  have e : (x &&& m).toBitVec.toNat = x.toBitVec.toNat % 2 ^ k := by
    rw [Int32.toBitVec_and, BitVec.toNat_and, hm, BitVec.toNat_ofNat, Nat.mod_eq_of_lt h1, Nat.and_two_pow_sub_one_eq_mod]
  constructor
  · intro h
    rw [← e, h]; rfl
  · intro h
    apply Int32.toBitVec_inj.mp
    apply BitVec.eq_of_toNat_eq
    rw [e, h]; rfl
theorem ar_dv (x : Int32) (a : Nat) (m : Int32) (hm : m.toInt = a) (h1 : 1 ≤ a) (h2 : a ≤ 8) : x - x / m * m = 0 ↔ x.toInt % a = 0 := by
  have b1 := Int32.le_toInt x
  have b2 := Int32.toInt_lt x
  have ed := Int.mul_tdiv_add_tmod x.toInt a
  have q1 := Int.natAbs_tdiv_le_natAbs x.toInt a
  have q2 : (x.toInt.tmod a).natAbs ≤ x.toInt.natAbs := by
    rw [Int.natAbs_tmod]; exact Nat.mod_le _ _
  have q3 : 0 ≤ x.toInt → 0 ≤ x.toInt.tmod a := fun h => Int.tmod_nonneg _ h
  have q4 : 0 ≤ x.toInt → 0 ≤ x.toInt.tdiv a := fun h => Int.tdiv_nonneg h (by omega)
  have q5 : x.toInt ≤ 0 → x.toInt.tmod a ≤ 0 := fun h => by
    have := Int.tmod_nonneg (a := -x.toInt) a (by omega)
    rw [Int.neg_tmod] at this
    omega
  have q6 : x.toInt ≤ 0 → x.toInt.tdiv a ≤ 0 := fun h => by
    have := Int.tdiv_nonneg (a := -x.toInt) (b := a) (by omega) (by omega)
    rw [Int.neg_tdiv] at this
    omega
  have e1 : (x / m).toInt = x.toInt.tdiv a := by
    rw [Int32.toInt_div, hm]
    apply Int.bmod_eq_of_le <;> omega
  have e2 : (x / m * m).toInt = x.toInt.tdiv a * a := by
    rw [Int32.toInt_mul, e1, hm]
    have : x.toInt.tdiv a * a = x.toInt - x.toInt.tmod a := by rw [Int.mul_comm]; omega
    rw [this]
    apply Int.bmod_eq_of_le <;> omega
  have e3 : (x - x / m * m).toInt = x.toInt.tmod a := by
    rw [Int32.toInt_sub, e2]
    have : x.toInt - x.toInt.tdiv a * a = x.toInt.tmod a := by rw [Int.mul_comm]; omega
    rw [this]
    apply Int.bmod_eq_of_le <;> omega
  have e4 : x.toInt.tmod a = 0 ↔ x.toInt % a = 0 := by
    rw [← Int.dvd_iff_tmod_eq_zero, ← Int.dvd_iff_emod_eq_zero]
  rw [← e4, ← e3]
  exact ⟨fun h => by rw [h]; rfl, fun h => Int32.toInt_inj.mp (by rw [h]; rfl)⟩
theorem ar_bt (x : Int32) (a : Nat) (h : a = 1 ∨ a = 2 ∨ a = 4 ∨ a = 8) : x.toBitVec.toNat % a = 0 ↔ x.toInt % a = 0 := by
  have e : x.toInt = x.toBitVec.toInt := rfl
  have e1 := BitVec.toInt_eq_toNat_cond x.toBitVec
  rw [e, e1]
  rcases h with rfl | rfl | rfl | rfl <;> split <;> omega
theorem ar_al (x : Int32) {al : Nat} (h : al = 1 ∨ al = 2 ∨ al = 4 ∨ al = 8) : x &&& (nI al - 1) = 0 ↔ x - x / nI al * nI al = 0 := by
  rcases h with rfl | rfl | rfl | rfl
  · rw [ar_and x 0 _ rfl (by decide), ar_dv x 1 (nI 1) rfl (by decide) (by decide), ← ar_bt x 1 (by decide)]
  · rw [ar_and x 1 _ rfl (by decide), ar_dv x 2 (nI 2) rfl (by decide) (by decide), ← ar_bt x 2 (by decide)]
  · rw [ar_and x 2 _ rfl (by decide), ar_dv x 4 (nI 4) rfl (by decide) (by decide), ← ar_bt x 4 (by decide)]
  · rw [ar_and x 3 _ rfl (by decide), ar_dv x 8 (nI 8) rfl (by decide) (by decide), ← ar_bt x 8 (by decide)]
theorem ar_ut (e : Nat) {al : Nat} (h : al = 1 ∨ al = 2 ∨ al = 4 ∨ al = 8) (he : e ≤ 100000) : (nI e + nI al - 1) &&& (-(nI al)) = nI (mo_ut e al) := by
  have key : ∀ k : Nat, k ≤ 3 → (nI (e + 2 ^ k - 1)) &&& (-(nI (2 ^ k))) = nI (mo_ut e (2 ^ k)) := by
    intro k hk
    have hp : 1 ≤ 2 ^ k := Nat.one_le_two_pow
    have hp8 : 2 ^ k ≤ 8 := Nat.pow_le_pow_right (n := 2) (by decide) hk
    apply Int32.toBitVec_inj.mp
    apply BitVec.eq_of_getLsbD_eq
    intro i hi
    have e0 : (-(nI (2 ^ k))).toBitVec = ~~~ (BitVec.ofNat 32 (2 ^ k - 1)) := by
      obtain rfl | rfl | rfl | rfl : k = 0 ∨ k = 1 ∨ k = 2 ∨ k = 3 := by omega
      all_goals decide
    rw [Int32.toBitVec_and, e0]
    have e1 : ∀ m : Nat, (nI m).toBitVec = BitVec.ofNat 32 m := fun m => rfl
    rw [e1, e1, BitVec.getLsbD_and, BitVec.getLsbD_not, BitVec.getLsbD_ofNat, BitVec.getLsbD_ofNat, BitVec.getLsbD_ofNat, Nat.testBit_two_pow_sub_one]
    simp only [hi, decide_true, Bool.true_and]
    have e2 : mo_ut e (2 ^ k) = 2 ^ k * ((e + 2 ^ k - 1) / 2 ^ k) := Nat.mul_comm _ _
    rw [e2, Nat.testBit_two_pow_mul, Nat.testBit_div_two_pow]
    by_cases hik : i < k
    · simp [hik, Nat.not_le.mpr hik]
    · have : k ≤ i := by omega
      simp [hik, this, Nat.sub_add_cancel this]
  have e9 : nI e + nI al - 1 = nI (e + al - 1) := by
    have : 1 ≤ al := by omega
    show Int32.ofNat e + Int32.ofNat al - Int32.ofNat 1 = Int32.ofNat (e + al - 1)
    rw [← Int32.ofNat_add, ← Int32.ofNat_sub _ _ (by omega)]
  rw [e9]
  rcases h with rfl | rfl | rfl | rfl
  · exact key 0 (by decide)
  · exact key 1 (by decide)
  · exact key 2 (by decide)
  · exact key 3 (by decide)
theorem by_l (m : Nat) : (lN m).toBitVec = BitVec.ofNat 64 m := rfl
theorem by_i (m : Nat) : (nI m).toBitVec = BitVec.ofNat 32 m := rfl
theorem by_s {n : Nat} (h : n < 8) : ((8 * nI n).toInt64 &&& 63) = Int64.ofNat (8 * n) := by
  obtain rfl | rfl | rfl | rfl | rfl | rfl | rfl | rfl : n = 0 ∨ n = 1 ∨ n = 2 ∨ n = 3 ∨ n = 4 ∨ n = 5 ∨ n = 6 ∨ n = 7 := by omega
  all_goals decide
theorem by_nor {m b s : Nat} (h : m < 2 ^ s) : m ||| (b <<< s) = m + b * 2 ^ s := by
  rw [Nat.or_comm, ← Nat.shiftLeft_add_eq_or_of_lt h, Nat.shiftLeft_eq, Nat.add_comm]
theorem by_256 (n : Nat) : 256 ^ n = 2 ^ (8 * n) := by rw [Nat.pow_mul]
theorem by_or {n m b : Nat} (hn : n < 8) (hm : m < 256 ^ n) (hb : b < 256) : lN m ||| ((nI b).toInt64 <<< ((8 * nI n).toInt64 &&& 63)) = lN (m + b * 256 ^ n) := by
  rw [by_s hn, by_256]
  rw [by_256] at hm
  have e0 : (nI b).toInt64 = lN b := by
    apply Int64.toInt_inj.mp
    rw [Int32.toInt_toInt64]
    show (Int32.ofNat b).toInt = (Int64.ofNat b).toInt
    rw [Int32.toInt_ofNat_of_lt (by omega), Int64.toInt_ofNat_of_lt (by omega)]
  rw [e0]
  have e1 : lN b <<< Int64.ofNat (8 * n) = lN (b * 2 ^ (8 * n)) := by
    apply Int64.toBitVec_inj.mp
    rw [Int64.toBitVec_shiftLeft]
    have e2 : ((Int64.ofNat (8 * n)).toBitVec.smod 64).toNat = 8 * n := by
      obtain rfl | rfl | rfl | rfl | rfl | rfl | rfl | rfl : n = 0 ∨ n = 1 ∨ n = 2 ∨ n = 3 ∨ n = 4 ∨ n = 5 ∨ n = 6 ∨ n = 7 := by omega
      all_goals decide
    rw [BitVec.shiftLeft_eq', e2]
    apply BitVec.eq_of_toNat_eq
    rw [by_l, by_l, BitVec.toNat_shiftLeft, BitVec.toNat_ofNat, BitVec.toNat_ofNat, Nat.shiftLeft_eq, Nat.mod_mul_mod]
  rw [e1]
  apply Int64.toBitVec_inj.mp
  rw [Int64.toBitVec_or, by_l, by_l, by_l]
  have hp : 2 ^ (8 * n) ≤ 2 ^ 56 := Nat.pow_le_pow_right (by decide) (by omega)
  have hbb : b * 2 ^ (8 * n) ≤ 255 * 2 ^ 56 := Nat.mul_le_mul (by omega) hp
  apply BitVec.eq_of_toNat_eq
  rw [BitVec.toNat_or, BitVec.toNat_ofNat, BitVec.toNat_ofNat, BitVec.toNat_ofNat, Nat.mod_eq_of_lt (by omega), Nat.mod_eq_of_lt (by omega), Nat.mod_eq_of_lt (by omega)]
  have := by_nor (m := m) (b := b) hm
  rw [Nat.shiftLeft_eq] at this
  exact this
theorem by_byte {k m : Nat} (hk : k < 8) (hm : m < 2 ^ 64) : hb_by (lN m) k = nI (m / 256 ^ k % 256) := by
  have e2 : ((8 * nI k).toInt64.toUInt64 &&& Int64.toUInt64 63) = UInt64.ofNat (8 * k) := by
    obtain rfl | rfl | rfl | rfl | rfl | rfl | rfl | rfl : k = 0 ∨ k = 1 ∨ k = 2 ∨ k = 3 ∨ k = 4 ∨ k = 5 ∨ k = 6 ∨ k = 7 := by omega
    all_goals decide
  rw [hb_by, e2, by_256]
  apply Int32.toBitVec_inj.mp
  rw [Int32.toBitVec_and]
  apply BitVec.eq_of_toNat_eq
  have e3 : ((lN m).toUInt64 >>> UInt64.ofNat (8 * k)).toNat = m / 2 ^ (8 * k) := by
    rw [UInt64.toNat_shiftRight, UInt64.toNat_ofNat_of_lt' (by show 8 * k < 2 ^ 64; omega), Nat.shiftRight_eq_div_pow, Nat.mod_eq_of_lt (by omega : 8 * k < 64)]
    show ((lN m).toBitVec.toNat) / _ = _
    rw [by_l, BitVec.toNat_ofNat, Nat.mod_eq_of_lt hm]
  have e4 : (((lN m).toUInt64 >>> UInt64.ofNat (8 * k)).toInt64.toInt32).toBitVec.toNat = m / 2 ^ (8 * k) % 2 ^ 32 := by
    rw [Int64.toBitVec_toInt32, BitVec.signExtend_eq_setWidth_of_le _ (by decide)]
    rw [BitVec.toNat_setWidth]
    show ((lN m).toUInt64 >>> UInt64.ofNat (8 * k)).toNat % 2 ^ 32 = _
    rw [e3]
  rw [BitVec.toNat_and, e4, by_i, BitVec.toNat_ofNat]
  show m / 2 ^ (8 * k) % 2 ^ 32 &&& (2 ^ 8 - 1) = _
  rw [Nat.and_two_pow_sub_one_eq_mod]
  omega
theorem by_or32 {n m b : Nat} (hn : n < 4) (hm : m < 256 ^ n) (hb : b < 256) : nI m ||| (nI b <<< ((8 * nI n) &&& 31)) = nI (m + b * 256 ^ n) := by
  have es : ((8 * nI n) &&& 31) = Int32.ofNat (8 * n) := by
    obtain rfl | rfl | rfl | rfl : n = 0 ∨ n = 1 ∨ n = 2 ∨ n = 3 := by omega
    all_goals decide
  rw [es, by_256]
  rw [by_256] at hm
  have e1 : nI b <<< Int32.ofNat (8 * n) = nI (b * 2 ^ (8 * n)) := by
    apply Int32.toBitVec_inj.mp
    rw [Int32.toBitVec_shiftLeft]
    have e2 : ((Int32.ofNat (8 * n)).toBitVec.smod 32).toNat = 8 * n := by
      obtain rfl | rfl | rfl | rfl : n = 0 ∨ n = 1 ∨ n = 2 ∨ n = 3 := by omega
      all_goals decide
    rw [BitVec.shiftLeft_eq', e2]
    apply BitVec.eq_of_toNat_eq
    rw [by_i, by_i, BitVec.toNat_shiftLeft, BitVec.toNat_ofNat, BitVec.toNat_ofNat, Nat.shiftLeft_eq, Nat.mod_mul_mod]
  rw [e1]
  apply Int32.toBitVec_inj.mp
  rw [Int32.toBitVec_or, by_i, by_i, by_i]
  have hp : 2 ^ (8 * n) ≤ 2 ^ 24 := Nat.pow_le_pow_right (by decide) (by omega)
  have hbb : b * 2 ^ (8 * n) ≤ 255 * 2 ^ 24 := Nat.mul_le_mul (by omega) hp
  apply BitVec.eq_of_toNat_eq
  rw [BitVec.toNat_or, BitVec.toNat_ofNat, BitVec.toNat_ofNat, BitVec.toNat_ofNat, Nat.mod_eq_of_lt (by omega), Nat.mod_eq_of_lt (by omega), Nat.mod_eq_of_lt (by omega)]
  have := by_nor (m := m) (b := b) hm
  rw [Nat.shiftLeft_eq] at this
  exact this
theorem by_a16 (m : Nat) : lN m &&& 65535 = lN (m % 65536) := by
  apply Int64.toBitVec_inj.mp
  rw [Int64.toBitVec_and, by_l, by_l]
  apply BitVec.eq_of_toNat_eq
  rw [BitVec.toNat_and, BitVec.toNat_ofNat, BitVec.toNat_ofNat]
  show m % 2 ^ 64 &&& (2 ^ 16 - 1) = _
  rw [Nat.and_two_pow_sub_one_eq_mod]
  omega
theorem by_h16 {m : Nat} (hm : m < 2 ^ 64) : (((lN m).toUInt64 >>> ((16 : Int32).toInt64.toUInt64 &&& Int64.toUInt64 63)).toInt64).toInt32 = nI (m / 65536) := by
  have e2 : ((16 : Int32).toInt64.toUInt64 &&& Int64.toUInt64 63) = UInt64.ofNat 16 := by decide
  rw [e2]
  apply Int32.toBitVec_inj.mp
  apply BitVec.eq_of_toNat_eq
  rw [Int64.toBitVec_toInt32, BitVec.signExtend_eq_setWidth_of_le _ (by decide), BitVec.toNat_setWidth, by_i, BitVec.toNat_ofNat]
  show ((lN m).toUInt64 >>> UInt64.ofNat 16).toNat % 2 ^ 32 = _
  rw [UInt64.toNat_shiftRight, UInt64.toNat_ofNat_of_lt' (by decide), Nat.shiftRight_eq_div_pow]
  show ((lN m).toBitVec.toNat) / _ % _ = _
  rw [by_l, BitVec.toNat_ofNat, Nat.mod_eq_of_lt hm]
theorem by_pc {p c : Nat} (hp : p < 65536) (hc : c ≤ 65536) : ((nI c).toInt64 <<< ((16 : Int32).toInt64 &&& 63)) ||| (nI p).toInt64 = lN (p + c * 65536) := by
  have e0 : ∀ b : Nat, b ≤ 65536 → (nI b).toInt64 = lN b := fun b hb => by
    apply Int64.toInt_inj.mp
    rw [Int32.toInt_toInt64]
    show (Int32.ofNat b).toInt = (Int64.ofNat b).toInt
    rw [Int32.toInt_ofNat_of_lt (by omega), Int64.toInt_ofNat_of_lt (by omega)]
  rw [e0 c hc, e0 p (by omega)]
  have e1 : lN c <<< ((16 : Int32).toInt64 &&& 63) = lN (c * 2 ^ 16) := by
    apply Int64.toBitVec_inj.mp
    rw [Int64.toBitVec_shiftLeft]
    have e2 : (((16 : Int32).toInt64 &&& 63).toBitVec.smod 64).toNat = 16 := by decide
    rw [BitVec.shiftLeft_eq', e2]
    apply BitVec.eq_of_toNat_eq
    rw [by_l, by_l, BitVec.toNat_shiftLeft, BitVec.toNat_ofNat, BitVec.toNat_ofNat, Nat.shiftLeft_eq, Nat.mod_mul_mod]
  rw [e1]
  apply Int64.toBitVec_inj.mp
  rw [Int64.toBitVec_or, by_l, by_l, by_l]
  apply BitVec.eq_of_toNat_eq
  rw [BitVec.toNat_or, BitVec.toNat_ofNat, BitVec.toNat_ofNat, BitVec.toNat_ofNat, Nat.mod_eq_of_lt (by omega), Nat.mod_eq_of_lt (by omega), Nat.mod_eq_of_lt (by omega), Nat.or_comm]
  have := by_nor (m := p) (b := c) (s := 16) (by omega)
  rw [Nat.shiftLeft_eq] at this
  exact this
