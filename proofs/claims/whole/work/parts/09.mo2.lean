/-! small rows: numbers by their Nats; loads and stores at a place that is a Nat -/
theorem n_lt (a b : Nat) {x y : Int32} (h : x < y) (hx : x = nI a := by rfl) (hy : y = nI b := by rfl) (ha : a < 2147483648 := by omega) (hb : b < 2147483648 := by omega) : a < b := by
  subst hx; subst hy; exact (nI_ltI ha hb).mp h
theorem n_nlt (a b : Nat) {x y : Int32} (h : ¬ x < y) (hx : x = nI a := by rfl) (hy : y = nI b := by rfl) (ha : a < 2147483648 := by omega) (hb : b < 2147483648 := by omega) : b ≤ a := by
  subst hx; subst hy; exact Nat.not_lt.mp (fun z => h ((nI_ltI ha hb).mpr z))
theorem n_le (a b : Nat) {x y : Int32} (h : x ≤ y) (hx : x = nI a := by rfl) (hy : y = nI b := by rfl) (ha : a < 2147483648 := by omega) (hb : b < 2147483648 := by omega) : a ≤ b := by
  subst hx; subst hy; exact (nI_leI ha hb).mp h
theorem n_nle (a b : Nat) {x y : Int32} (h : ¬ x ≤ y) (hx : x = nI a := by rfl) (hy : y = nI b := by rfl) (ha : a < 2147483648 := by omega) (hb : b < 2147483648 := by omega) : b < a := by
  subst hx; subst hy; exact Nat.not_le.mp (fun z => h ((nI_leI ha hb).mpr z))
theorem n_eq (a b : Nat) {x y : Int32} (h : x = y) (hx : x = nI a := by rfl) (hy : y = nI b := by rfl) (ha : a < 2147483648 := by omega) (hb : b < 2147483648 := by omega) : a = b := by
  subst hx; subst hy; exact (nI_eq ha hb).mp h
theorem n_ne (a b : Nat) {x y : Int32} (h : ¬ x = y) (hx : x = nI a := by rfl) (hy : y = nI b := by rfl) : a ≠ b := by
  subst hx; subst hy; exact fun z => h (by rw [z])
theorem n_1 : (1 : Int32) = nI 1 := rfl
theorem n_6 : (6 : Int32) = nI 6 := rfl
theorem n_16 : (16 : Int32) = nI 16 := rfl
theorem n_17 : (17 : Int32) = nI 17 := rfl
theorem n_102 : (102 : Int32) = nI 102 := rfl
theorem n_256 : (256 : Int32) = nI 256 := rfl
theorem n_i1 {a : Nat} : nI a + Int32.ofInt 1 = nI (a + 1) := nI_1 a
theorem n_d1 {a : Nat} (h : 0 < a) : nI a + Int32.ofInt (-1) = nI (a - 1) := by
  obtain ⟨b, rfl⟩ : ∃ b, a = b + 1 := ⟨a - 1, by omega⟩
  exact pk_m1 b
section MO2
variable {π : ev_P} {μ : ev_M} {E : ev_T} {cells slots : Nat} {lv : List (Option Value)} {st : List Value} {ws : va_W}
theorem ev_topi {x : Int32} {pc : Nat} (y : Int32) (h : x = y) (k : EV π μ E cells slots pc lv (.int y :: st) ws) : EV π μ E cells slots pc lv (.int x :: st) ws := by
  subst h; exact k
theorem ev_sndi {x v : Int32} {pc : Nat} (y : Int32) (h : x = y) (k : EV π μ E cells slots pc lv (.int v :: .int y :: st) ws) : EV π μ E cells slots pc lv (.int v :: .int x :: st) ws := by
  subst h; exact k
end MO2
section MO3
variable {l : Launch} {D : va_G} {cl : List vw_C} {tl : List (ClassId × FieldType)} {Z : (Nat → Prop) → State → Heap → Prop} {ci : Nat} {kI kZ : ClassId} {am : Nat → Nat} {F : Nat → Int32} {B : Nat → Nat → Int32} {μ : ev_M} {E : ev_T} {cells slots : Nat} {lv : List (Option Value)} {st : List Value}
theorem mo_len_lt (k : Nat) : mo_len k < 2147483648 := by
  unfold mo_len; split <;> decide
theorem mo_aldn {j : Nat} (pc n k : Nat) (d : decode μ.2.1 pc = .ok (.iaload, 1)) (hin : j < mo_len k)
    (kk : EV (mo_π l D cl kI kZ tl Z) μ E cells slots (pc + 1) lv (.int (B k j) :: st) (mo_W ci am kI kZ F B)) (hk : mo_R[n]? = some k := by rfl) (hz : mo_Zs.contains k = false := by rfl) : EV (mo_π l D cl kI kZ tl Z) μ E cells slots pc lv (.int (nI j) :: .ref (am k) :: st) (mo_W ci am kI kZ F B) := by
  refine mo_ald pc n k d (vp_in_nI hin (mo_len_lt k)) ?_ hk hz
  rw [nI_clamp (Nat.lt_trans hin (mo_len_lt k))]
  exact kk
theorem mo_zldn {j : Nat} (pc n k : Nat) (d : decode μ.2.1 pc = .ok (.baload, 1)) (hin : j < mo_len k)
    (kk : EV (mo_π l D cl kI kZ tl Z) μ E cells slots (pc + 1) lv (.int (B k j) :: st) (mo_W ci am kI kZ F B)) (hk : mo_R[n]? = some k := by rfl) (hz : mo_Zs.contains k = true := by rfl) : EV (mo_π l D cl kI kZ tl Z) μ E cells slots pc lv (.int (nI j) :: .ref (am k) :: st) (mo_W ci am kI kZ F B) := by
  refine mo_zld pc n k d (vp_in_nI hin (mo_len_lt k)) ?_ hk hz
  rw [nI_clamp (Nat.lt_trans hin (mo_len_lt k))]
  exact kk
theorem mo_astn {j : Nat} {x : Int32} (pc n k : Nat) (d : decode μ.2.1 pc = .ok (.iastore, 1)) (hin : j < mo_len k)
    (kk : EV (mo_π l D cl kI kZ tl Z) μ E cells slots (pc + 1) lv st (mo_W ci am kI kZ F (va_up B k (upd (B k) j x)))) (hk : mo_R[n]? = some k := by rfl) (hz : mo_Zs.contains k = false := by rfl) : EV (mo_π l D cl kI kZ tl Z) μ E cells slots pc lv (.int x :: .int (nI j) :: .ref (am k) :: st) (mo_W ci am kI kZ F B) := by
  refine mo_ast pc n k d (vp_in_nI hin (mo_len_lt k)) ?_ hk hz
  rw [nI_clamp (Nat.lt_trans hin (mo_len_lt k))]
  exact kk
/-- a yes or no is stored: x is 0 or 1 -/
theorem mo_zstn {j : Nat} {x : Int32} (pc n k : Nat) (d : decode μ.2.1 pc = .ok (.bastore, 1)) (hin : j < mo_len k) (hx : x = 0 ∨ x = 1)
    (kk : EV (mo_π l D cl kI kZ tl Z) μ E cells slots (pc + 1) lv st (mo_W ci am kI kZ F (va_up B k (upd (B k) j x)))) (hk : mo_R[n]? = some k := by rfl) (hz : mo_Zs.contains k = true := by rfl) : EV (mo_π l D cl kI kZ tl Z) μ E cells slots pc lv (.int x :: .int (nI j) :: .ref (am k) :: st) (mo_W ci am kI kZ F B) := by
  refine mo_zst pc n k d (vp_in_nI hin (mo_len_lt k)) ?_ hk hz
  rw [nI_clamp (Nat.lt_trans hin (mo_len_lt k)), show vp_nar .boolean x = x by rcases hx with rfl | rfl <;> rfl]
  exact kk
end MO3
