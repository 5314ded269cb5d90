/-! texts: groups of bytes -/
def tx_b (f : Nat → Int32) (ii P : Nat) : Int32 := if 256 ≤ P then 0 else f (256 * ii + P)
/-- how many bytes more a group has, by its first one; -1: none begins so -/
def tx_mr (b : Int32) : Int32 := if 128 ≤ b then (if ¬ b < 194 ∧ ¬ 223 < b then 1 else if ¬ b < 224 ∧ ¬ 239 < b then 2 else if ¬ b < 240 ∧ ¬ 244 < b then 3 else -1) else 0
def tx_lo (b : Int32) (m : Nat) : Int32 := if m = 0 then (if b = 224 then 160 else if b = 240 then 144 else 128) else 128
def tx_hi (b : Int32) (m : Nat) : Int32 := if m = 0 then (if b = 237 then 159 else if b = 244 then 143 else 191) else 191
/-- the group that begins at k, its first byte and m more looked at: a trap or none -/
def tx_c (f : Nat → Int32) (ii fr mn k : Nat) : Nat → Option (Int32 × Int32)
  | 0 => if 256 ≤ fr + k then some (1, nI (fr + k)) else if ¬ 0 ≤ tx_mr (tx_b f ii (fr + k)) then some (4, nI (fr + k)) else none
  | m + 1 => match tx_c f ii fr mn k m with
    | some r => some r
    | none => if k + (m + 1) = mn then some (4, nI (fr + k)) else if 256 ≤ fr + k + (m + 1) then some (1, nI (fr + k + (m + 1)))
      else if f (256 * ii + (fr + k + (m + 1))) < tx_lo (tx_b f ii (fr + k)) m ∨ tx_hi (tx_b f ii (fr + k)) m < f (256 * ii + (fr + k + (m + 1))) then some (4, nI (fr + k)) else none
def tx_g (f : Nat → Int32) (ii fr mn k : Nat) : Option (Int32 × Int32) := tx_c f ii fr mn k (tx_mr (tx_b f ii (fr + k))).toNatClampNeg
/-- the text from k on, of mn bytes at fr -/
def tx_r (f : Nat → Int32) (ii fr mn : Nat) : Nat → Nat → Option (Int32 × Int32)
  | 0, _ => none
  | n + 1, k => if mn ≤ k then none else match tx_g f ii fr mn k with
    | some r => some r
    | none => tx_r f ii fr mn n (k + (tx_mr (tx_b f ii (fr + k))).toNatClampNeg + 1)
theorem n_out {P : Nat} (h : P < 2147483648) : (nI P < 0 ∨ 255 < nI P) ↔ 256 ≤ P := by
  constructor
  · rintro (z | z)
    · exact absurd z (nI_pos h)
    · exact n_lt 255 P z
  · exact fun z => Or.inr ((nI_ltI (a := 255) (by omega) h).mpr (by omega))
theorem tx_mr_in (b : Int32) : tx_mr b = 0 ∨ tx_mr b = 1 ∨ tx_mr b = 2 ∨ tx_mr b = 3 ∨ tx_mr b = -1 := by
  unfold tx_mr; split
  · split
    · simp
    · split
      · simp
      · split <;> simp
  · simp
theorem tx_lo_ge (b : Int32) (m : Nat) : ¬ tx_lo b m ≤ 0 := by
  unfold tx_lo; split
  · split
    · decide
    · split <;> decide
  · decide
theorem tx_c1 {f : Nat → Int32} {ii fr mn k m : Nat} {r : Int32 × Int32} (h : tx_c f ii fr mn k m = some r) : ∀ j, m ≤ j → tx_c f ii fr mn k j = some r := by
  intro j hj
  obtain ⟨d, rfl⟩ : ∃ d, j = m + d := ⟨j - m, by omega⟩
  induction d with
  | zero => exact h
  | succ d ih => rw [Nat.add_succ, tx_c, ih (by omega)]
theorem tx_cc {f : Nat → Int32} {ii fr mn k : Nat} : ∀ {m : Nat} {r : Int32 × Int32}, tx_c f ii fr mn k m = some r → r.1 = 1 ∨ r.1 = 4 := by
  intro m
  induction m with
  | zero =>
    intro r h
    rw [tx_c] at h
    split at h
    · cases h; exact Or.inl rfl
    · split at h
      · cases h; exact Or.inr rfl
      · cases h
  | succ m ih =>
    intro r h
    rw [tx_c] at h
    cases e : tx_c f ii fr mn k m with
    | some q => rw [e] at h; cases h; exact ih e
    | none =>
      rw [e] at h
      dsimp only at h
      split at h
      · cases h; exact Or.inr rfl
      · split at h
        · cases h; exact Or.inl rfl
        · split at h
          · cases h; exact Or.inr rfl
          · cases h
theorem mo_fl2 {F : Nat → Int32} (h : ¬ F 54 = 0) (c p : Int32) : mo_fl F c p = F := by rw [mo_fl, if_neg h]
theorem mo_fo54 {F : Nat → Int32} (h0 : F 54 = 0) {o : Option (Int32 × Int32)} (ho : ∀ r, o = some r → r.1 = 1 ∨ r.1 = 4) : (mo_fo F o 54 = 0 ↔ o = none) := by
  cases o with
  | none => exact ⟨fun _ => rfl, fun _ => h0⟩
  | some r =>
    constructor
    · intro z
      have z : mo_fl F r.1 r.2 54 = 0 := z
      rw [mo_fl1 h0] at z
      rcases ho r rfl with q | q <;> rw [q] at z <;> exact absurd z (by decide)
    · intro z; cases z
theorem tx_s1 {F F1 : Nat → Int32} {B : Nat → Nat → Int32} {ii fr mn k m : Nat} {nx : Int32} (h0 : F 54 = 0) (hP : fr + k + (m + 1) < 2147483648) (hn : tx_c (B 13) ii fr mn k m = none) (hm : k + (m + 1) ≠ mn)
    (hb : ((nI (fr + k + (m + 1)) < 0 ∨ 255 < nI (fr + k + (m + 1))) ∧ nx = 0 ∧ F1 = mo_fl F 1 (nI (fr + k + (m + 1))) ∧ ¬ F1 54 ≤ 0) ∨ (¬ (nI (fr + k + (m + 1)) < 0 ∨ 255 < nI (fr + k + (m + 1))) ∧ nx = B 13 (256 * nI ii + nI (fr + k + (m + 1))).toNatClampNeg ∧ F1 = F ∧ F1 54 ≤ 0)) (hi : ii < 6)
    (hc : nx < tx_lo (tx_b (B 13) ii (fr + k)) m ∨ tx_hi (tx_b (B 13) ii (fr + k)) m < nx) : mo_fl F1 4 (nI (fr + k)) = mo_fo F (tx_c (B 13) ii fr mn k (m + 1)) := by
  rcases hb with ⟨hp, -, rfl, -⟩ | ⟨hp, hx, rfl, -⟩
  · have hp := (n_out hP).mp hp
    rw [mo_fl2 (by rw [mo_fl1 h0]; decide), tx_c, hn]
    simp only [if_neg hm, if_pos hp]; rfl
  · have hp : ¬ 256 ≤ fr + k + (m + 1) := fun z => hp ((n_out hP).mpr z)
    rw [n_256, pk_mul, nI_add, nI_clamp (by omega)] at hx
    rw [tx_c, hn]
    simp only [if_neg hm, if_neg hp]
    rw [if_pos (by rw [← hx]; exact hc)]; rfl
theorem tx_s2 {F F1 : Nat → Int32} {B : Nat → Nat → Int32} {ii fr mn k m : Nat} {nx : Int32} (h0 : F 54 = 0) (hP : fr + k + (m + 1) < 2147483648) (hn : tx_c (B 13) ii fr mn k m = none) (hm : k + (m + 1) ≠ mn)
    (hb : ((nI (fr + k + (m + 1)) < 0 ∨ 255 < nI (fr + k + (m + 1))) ∧ nx = 0 ∧ F1 = mo_fl F 1 (nI (fr + k + (m + 1))) ∧ ¬ F1 54 ≤ 0) ∨ (¬ (nI (fr + k + (m + 1)) < 0 ∨ 255 < nI (fr + k + (m + 1))) ∧ nx = B 13 (256 * nI ii + nI (fr + k + (m + 1))).toNatClampNeg ∧ F1 = F ∧ F1 54 ≤ 0)) (hi : ii < 6)
    (hc : ¬ nx < tx_lo (tx_b (B 13) ii (fr + k)) m) (hd : nx ≤ tx_hi (tx_b (B 13) ii (fr + k)) m) : F1 = mo_fo F (tx_c (B 13) ii fr mn k (m + 1)) := by
  rcases hb with ⟨hp, rfl, rfl, -⟩ | ⟨hp, hx, rfl, -⟩
  · exact absurd (Int32.not_lt.mp hc) (tx_lo_ge _ _)
  · have hp : ¬ 256 ≤ fr + k + (m + 1) := fun z => hp ((n_out hP).mpr z)
    rw [n_256, pk_mul, nI_add, nI_clamp (by omega)] at hx
    rw [tx_c, hn]
    simp only [if_neg hm, if_neg hp]
    rw [if_neg (by rw [← hx]; exact fun z => z.elim hc (fun z => absurd hd (Int32.not_le.mpr z)))]; rfl
theorem tx_s3 {F : Nat → Int32} {f : Nat → Int32} {ii fr mn k m : Nat} (hn : tx_c f ii fr mn k m = none) (hm : k + (m + 1) = mn) : mo_fl F 4 (nI (fr + k)) = mo_fo F (tx_c f ii fr mn k (m + 1)) := by
  rw [tx_c, hn]
  simp only [if_pos hm]; rfl
/-- the first byte -/
theorem tx_f {F F1 : Nat → Int32} {B : Nat → Nat → Int32} {ii fr k : Nat} {y : Int32} (hP : fr + k < 2147483648) (hi : ii < 6)
    (hb : ((nI (fr + k) < 0 ∨ 255 < nI (fr + k)) ∧ y = 0 ∧ F1 = mo_fl F 1 (nI (fr + k)) ∧ ¬ F1 54 ≤ 0) ∨ (¬ (nI (fr + k) < 0 ∨ 255 < nI (fr + k)) ∧ y = B 13 (256 * nI ii + nI (fr + k)).toNatClampNeg ∧ F1 = F ∧ F1 54 ≤ 0)) :
    y = tx_b (B 13) ii (fr + k) ∧ (256 ≤ fr + k ∧ F1 = mo_fl F 1 (nI (fr + k)) ∨ ¬ 256 ≤ fr + k ∧ F1 = F) := by
  rcases hb with ⟨hp, hy, e, -⟩ | ⟨hp, hx, e, -⟩
  · have hp := (n_out hP).mp hp
    exact ⟨by rw [tx_b, if_pos hp]; exact hy, Or.inl ⟨hp, e⟩⟩
  · have hp : ¬ 256 ≤ fr + k := fun z => hp ((n_out hP).mpr z)
    rw [n_256, pk_mul, nI_add, nI_clamp (by omega)] at hx
    exact ⟨by rw [tx_b, if_neg hp]; exact hx, Or.inr ⟨hp, e⟩⟩
theorem tx_f0 {F F1 : Nat → Int32} {f : Nat → Int32} {ii fr mn k : Nat} (h : 256 ≤ fr + k ∧ F1 = mo_fl F 1 (nI (fr + k)) ∨ ¬ 256 ≤ fr + k ∧ F1 = F) (hm : 0 ≤ tx_mr (tx_b f ii (fr + k))) : F1 = mo_fo F (tx_c f ii fr mn k 0) := by
  rcases h with ⟨a, e⟩ | ⟨a, e⟩
  · rw [tx_c, if_pos a]; exact e
  · rw [tx_c, if_neg a, if_neg (fun z => z hm)]; exact e
theorem tx_f1 {F F1 : Nat → Int32} {f : Nat → Int32} {ii fr mn k : Nat} (h0 : F 54 = 0) (h : 256 ≤ fr + k ∧ F1 = mo_fl F 1 (nI (fr + k)) ∨ ¬ 256 ≤ fr + k ∧ F1 = F) (hm : ¬ 0 ≤ tx_mr (tx_b f ii (fr + k))) : mo_fl F1 4 (nI (fr + k)) = mo_fo F (tx_c f ii fr mn k 0) := by
  rcases h with ⟨a, e⟩ | ⟨a, e⟩
  · rw [tx_c, if_pos a, e, mo_fl2 (by rw [mo_fl1 h0]; decide)]; rfl
  · rw [tx_c, if_neg a, if_pos hm, e]; rfl
theorem tx_w {f : Nat → Int32} {ii fr mn n k : Nat} {r : Int32 × Int32} (hk : ¬ mn ≤ k) (h : tx_g f ii fr mn k = some r) : tx_r f ii fr mn (n + 1) k = some r := by
  rw [tx_r, if_neg hk, h]
theorem tx_w0 {f : Nat → Int32} {ii fr mn n k : Nat} (hk : ¬ mn ≤ k) (h : tx_g f ii fr mn k = none) : tx_r f ii fr mn (n + 1) k = tx_r f ii fr mn n (k + (tx_mr (tx_b f ii (fr + k))).toNatClampNeg + 1) := by
  rw [tx_r, if_neg hk, h]

set_option maxHeartbeats 4000000 in
set_option maxRecDepth 100000 in
theorem mt_readText {l : Launch} {D : va_G} {tl : List (ClassId × FieldType)} {Z : (Nat → Prop) → State → Heap → Prop} {kI kZ : ClassId} {am : Nat → Nat} {F : Nat → Int32} {B : Nat → Nat → Int32} (hZ : ev_Zok Z) (ii : Nat) (fr : Nat) (mn : Nat) (hii : ii < 6) (hfr : fr ≤ 65535) (hmn0 : mn ≤ 65535) (h0 : F 54 = 0) : MT (mo_π l D cl_A kI kZ tl Z) m_readText 0 0 [.ref (am 60), .int (nI ii), .int (nI fr), .int (nI mn)] (mo_W mo_ci am kI kZ F B) (mo_qv am kI kZ (fun F1 B1 => F1 = mo_fo F (tx_r (B 13) ii fr mn (mn + 1) 0) ∧ B1 = B)) := by
  refine mt_of mo_pl rfl (Nat.le_of_ble_eq_true rfl) (ev_eq (lv' := [some (.ref (am 60)), some (.int (nI ii)), some (.int (nI fr)), some (.int (nI mn)), none, none, none, none, none, none, none]) ?_)
  have E3 : ∀ (r : Int32 × Int32) (kk : Int32) (o5 o6 o7 o8 o9 o10 : Option Value), (r.1 = 1 ∨ r.1 = 4) → tx_r (B 13) ii fr mn (mn + 1) 0 = some r → EV (mo_π l D cl_A kI kZ tl Z) m_readText (ev_E (mo_π l D cl_A kI kZ tl Z) 0 0 (mo_qv am kI kZ (fun F1 B1 => F1 = mo_fo F (tx_r (B 13) ii fr mn (mn + 1) 0) ∧ B1 = B))) 0 0 3 [some (.ref (am 60)), some (.int (nI ii)), some (.int (nI fr)), some (.int (nI mn)), some (.int kk), o5, o6, o7, o8, o9, o10] [] (mo_W mo_ci am kI kZ (mo_fo F (some r)) B) := by
    intro r kk o5 o6 o7 o8 o9 o10 hr1 hr
    refine ev_iload_4 3 d_mo_readText_3 ?_
    refine ev_iload_3 5 d_mo_readText_5 ?_
    refine ev_icmpge 6 299 d_mo_readText_6 (fun c6 => ?_) (fun c6 => ?_)
    · refine ev_vret 299 d_mo_readText_299 rfl ?_
      exact ⟨_, _, rfl, rfl, by rw [hr], rfl⟩
    · refine ev_aload_0 9 d_mo_readText_9 ?_
      refine mo_geti 10 54 d_mo_readText_10 lk_224 ?_
      refine ev_ifne 13 299 d_mo_readText_13 (fun c13 => ?_) (fun c13 => ?_)
      · refine ev_vret 299 d_mo_readText_299 rfl ?_
        exact ⟨_, _, rfl, rfl, by rw [hr], rfl⟩
      · exact absurd (show mo_fl F r.1 r.2 54 = 0 from c13) (by rw [mo_fl1 h0]; rcases hr1 with z | z <;> rw [z] <;> decide)
  have L3 : ∀ (m k : Nat) (o5 o6 o7 o8 o9 o10 : Option Value), mn - k < m → k ≤ mn + 4 → tx_r (B 13) ii fr mn (mn + 1) 0 = tx_r (B 13) ii fr mn m k → EV (mo_π l D cl_A kI kZ tl Z) m_readText (ev_E (mo_π l D cl_A kI kZ tl Z) 0 0 (mo_qv am kI kZ (fun F1 B1 => F1 = mo_fo F (tx_r (B 13) ii fr mn (mn + 1) 0) ∧ B1 = B))) 0 0 3 [some (.ref (am 60)), some (.int (nI ii)), some (.int (nI fr)), some (.int (nI mn)), some (.int (nI k)), o5, o6, o7, o8, o9, o10] [] (mo_W mo_ci am kI kZ F B) := by
    intro m
    induction m with
    | zero => intro k o5 o6 o7 o8 o9 o10 h; omega
    | succ m ih =>
      intro k o5 o6 o7 o8 o9 o10 hm hk4 hr
      have M287 : ∀ (o7 o8 o9 o10 : Option Value), ¬ mn ≤ k → EV (mo_π l D cl_A kI kZ tl Z) m_readText (ev_E (mo_π l D cl_A kI kZ tl Z) 0 0 (mo_qv am kI kZ (fun F1 B1 => F1 = mo_fo F (tx_r (B 13) ii fr mn (mn + 1) 0) ∧ B1 = B))) 0 0 287 [some (.ref (am 60)), some (.int (nI ii)), some (.int (nI fr)), some (.int (nI mn)), some (.int (nI k)), some (.int (tx_b (B 13) ii (fr + k))), some (.int (tx_mr (tx_b (B 13) ii (fr + k)))), o7, o8, o9, o10] [] (mo_W mo_ci am kI kZ (mo_fo F (tx_g (B 13) ii fr mn k)) B) := by
        intro o7 o8 o9 o10 hkn
        refine ev_iload_4 287 d_mo_readText_287 ?_
        refine ev_iload_6 289 d_mo_readText_289 ?_
        refine ev_iadd 291 d_mo_readText_291 ?_
        refine ev_iconst_1 292 d_mo_readText_292 ?_
        refine ev_iadd 293 d_mo_readText_293 ?_
        refine ev_istore_4 294 d_mo_readText_294 ?_
        refine ev_goto 296 3 d_mo_readText_296 ?_
        cases hg : tx_g (B 13) ii fr mn k with
        | some r => exact E3 r _ _ _ _ _ _ _ (tx_cc hg) (hr.trans (tx_w hkn hg))
        | none =>
          have hq : tx_mr (tx_b (B 13) ii (fr + k)) = nI (tx_mr (tx_b (B 13) ii (fr + k))).toNatClampNeg ∧ (tx_mr (tx_b (B 13) ii (fr + k))).toNatClampNeg ≤ 3 := by
            rcases tx_mr_in (tx_b (B 13) ii (fr + k)) with z | z | z | z | z
            · rw [z]; exact ⟨rfl, by decide⟩
            · rw [z]; exact ⟨rfl, by decide⟩
            · rw [z]; exact ⟨rfl, by decide⟩
            · rw [z]; exact ⟨rfl, by decide⟩
            · rw [tx_g, z] at hg
              have hg : tx_c (B 13) ii fr mn k 0 = none := hg
              rw [tx_c] at hg
              split at hg
              · cases hg
              · rw [if_pos (by rw [z]; decide)] at hg; cases hg
          refine ev_eq (ih (k + (tx_mr (tx_b (B 13) ii (fr + k))).toNatClampNeg + 1) (some (.int (tx_b (B 13) ii (fr + k)))) (some (.int (tx_mr (tx_b (B 13) ii (fr + k))))) o7 o8 o9 o10 (by omega) ?_ (hr.trans (tx_w0 hkn hg))) (h1 := ?_)
          · omega
          · rw [show nI k + tx_mr (tx_b (B 13) ii (fr + k)) + 1 = nI (k + (tx_mr (tx_b (B 13) ii (fr + k))).toNatClampNeg + 1) by rw [← nI_1, ← nI_add, ← hq.1]]
      have M119 : ∀ (m2 q : Nat) (o8 o9 o10 : Option Value), (tx_mr (tx_b (B 13) ii (fr + k))).toNatClampNeg - q < m2 → q ≤ (tx_mr (tx_b (B 13) ii (fr + k))).toNatClampNeg → ¬ mn ≤ k → EV (mo_π l D cl_A kI kZ tl Z) m_readText (ev_E (mo_π l D cl_A kI kZ tl Z) 0 0 (mo_qv am kI kZ (fun F1 B1 => F1 = mo_fo F (tx_r (B 13) ii fr mn (mn + 1) 0) ∧ B1 = B))) 0 0 119 [some (.ref (am 60)), some (.int (nI ii)), some (.int (nI fr)), some (.int (nI mn)), some (.int (nI k)), some (.int (tx_b (B 13) ii (fr + k))), some (.int (tx_mr (tx_b (B 13) ii (fr + k)))), some (.int (nI (q + 1))), o8, o9, o10] [] (mo_W mo_ci am kI kZ (mo_fo F (tx_c (B 13) ii fr mn k q)) B) := by
        intro m2
        induction m2 with
        | zero => intro q o8 o9 o10 h; omega
        | succ m2 ih2 =>
          intro q o8 o9 o10 hm2 hq hkn
          have hq3 : (tx_mr (tx_b (B 13) ii (fr + k))).toNatClampNeg ≤ 3 := by rcases tx_mr_in (tx_b (B 13) ii (fr + k)) with z | z | z | z | z <;> rw [z] <;> decide
          have M242 : ∀ (o9 : Option Value), ∀ (o10 : Option Value), (tx_mr (tx_b (B 13) ii (fr + k))).toNatClampNeg - q < m2 + 1 → q < (tx_mr (tx_b (B 13) ii (fr + k))).toNatClampNeg → tx_c (B 13) ii fr mn k q = none → k + (q + 1) ≠ mn → EV (mo_π l D cl_A kI kZ tl Z) m_readText (ev_E (mo_π l D cl_A kI kZ tl Z) 0 0 (mo_qv am kI kZ (fun F1 B1 => F1 = mo_fo F (tx_r (B 13) ii fr mn (mn + 1) 0) ∧ B1 = B))) 0 0 242 [some (.ref (am 60)), some (.int (nI ii)), some (.int (nI fr)), some (.int (nI mn)), some (.int (nI k)), some (.int (tx_b (B 13) ii (fr + k))), some (.int (tx_mr (tx_b (B 13) ii (fr + k)))), some (.int (nI (q + 1))), some (.int (tx_lo (tx_b (B 13) ii (fr + k)) q)), o9, o10] [.int (tx_hi (tx_b (B 13) ii (fr + k)) q)] (mo_W mo_ci am kI kZ F B) := by
            intro o9 o10 hm9 hlt hn hne
            refine ev_istore_9 242 d_mo_readText_242 ?_
            refine ev_aload_0 244 d_mo_readText_244 ?_
            refine ev_iload_1 245 d_mo_readText_245 ?_
            refine ev_iload_2 246 d_mo_readText_246 ?_
            refine ev_iload_4 247 d_mo_readText_247 ?_
            refine ev_iadd 249 d_mo_readText_249 ?_
            refine ev_iload_7 250 d_mo_readText_250 ?_
            refine ev_iadd 252 d_mo_readText_252 ?_
            refine ev_topi (nI (fr + k + (q + 1))) (by rw [nI_add, nI_add]) ?_
            refine mo_calli2 253 d_mo_readText_253 hZ kc_234 (mt_byteAt hZ (nI ii) _ (mo_bb hii _)) (fun nx F2 B1 h => ?_)
            obtain ⟨hb, e2⟩ := h
            subst B1
            have hb2 := mo_bp0 h0 hb
            refine ev_istore_10 256 d_mo_readText_256 ?_
            refine ev_iload_10 258 d_mo_readText_258 ?_
            refine ev_iload_8 260 d_mo_readText_260 ?_
            refine ev_icmplt 262 272 d_mo_readText_262 (fun c262 => ?_) (fun c262 => ?_)
            · refine ev_aload_0 272 d_mo_readText_272 ?_
              refine ev_iconst_4 273 d_mo_readText_273 ?_
              refine ev_iload_2 274 d_mo_readText_274 ?_
              refine ev_iload_4 275 d_mo_readText_275 ?_
              refine ev_iadd 277 d_mo_readText_277 ?_
              refine ev_topi (nI (fr + k)) (by rw [nI_add]) ?_
              refine mo_callv2 278 d_mo_readText_278 hZ kc_230 (mt_fails hZ _ _) (fun F9 B9 h => ?_)
              obtain ⟨e1, e2⟩ := h
              subst F9
              subst B9
              refine ev_iinc_7 281 d_mo_readText_281 ?_
              refine ev_goto 284 119 d_mo_readText_284 ?_
              exact ev_eq (ih2 (q + 1) _ _ _ (by omega) (by omega) hkn) (h1 := by rw [n_i1]) (h3 := by rw [tx_s1 h0 (by omega) hn hne hb2 hii (Or.inl c262)])
            · refine ev_iload_10 265 d_mo_readText_265 ?_
              refine ev_iload_9 267 d_mo_readText_267 ?_
              refine ev_icmple 269 281 d_mo_readText_269 (fun c269 => ?_) (fun c269 => ?_)
              · refine ev_iinc_7 281 d_mo_readText_281 ?_
                refine ev_goto 284 119 d_mo_readText_284 ?_
                exact ev_eq (ih2 (q + 1) _ _ _ (by omega) (by omega) hkn) (h1 := by rw [n_i1]) (h3 := by rw [tx_s2 h0 (by omega) hn hne hb2 hii c262 c269])
              · refine ev_aload_0 272 d_mo_readText_272 ?_
                refine ev_iconst_4 273 d_mo_readText_273 ?_
                refine ev_iload_2 274 d_mo_readText_274 ?_
                refine ev_iload_4 275 d_mo_readText_275 ?_
                refine ev_iadd 277 d_mo_readText_277 ?_
                refine ev_topi (nI (fr + k)) (by rw [nI_add]) ?_
                refine mo_callv2 278 d_mo_readText_278 hZ kc_230 (mt_fails hZ _ _) (fun F9 B9 h => ?_)
                obtain ⟨e1, e2⟩ := h
                subst F9
                subst B9
                refine ev_iinc_7 281 d_mo_readText_281 ?_
                refine ev_goto 284 119 d_mo_readText_284 ?_
                exact ev_eq (ih2 (q + 1) _ _ _ (by omega) (by omega) hkn) (h1 := by rw [n_i1]) (h3 := by rw [tx_s1 h0 (by omega) hn hne hb2 hii (Or.inr (Int32.not_le.mp c269))])
          have M197 : ∀ (o8 o9 : Option Value), ∀ (o10 : Option Value), (tx_mr (tx_b (B 13) ii (fr + k))).toNatClampNeg - q < m2 + 1 → q < (tx_mr (tx_b (B 13) ii (fr + k))).toNatClampNeg → tx_c (B 13) ii fr mn k q = none → k + (q + 1) ≠ mn → EV (mo_π l D cl_A kI kZ tl Z) m_readText (ev_E (mo_π l D cl_A kI kZ tl Z) 0 0 (mo_qv am kI kZ (fun F1 B1 => F1 = mo_fo F (tx_r (B 13) ii fr mn (mn + 1) 0) ∧ B1 = B))) 0 0 197 [some (.ref (am 60)), some (.int (nI ii)), some (.int (nI fr)), some (.int (nI mn)), some (.int (nI k)), some (.int (tx_b (B 13) ii (fr + k))), some (.int (tx_mr (tx_b (B 13) ii (fr + k)))), some (.int (nI (q + 1))), o8, o9, o10] [.int (tx_lo (tx_b (B 13) ii (fr + k)) q)] (mo_W mo_ci am kI kZ F B) := by
            intro o8 o9 o10 hm9 hlt hn hne
            refine ev_istore_8 197 d_mo_readText_197 ?_
            refine ev_iload_7 199 d_mo_readText_199 ?_
            refine ev_iconst_1 201 d_mo_readText_201 ?_
            refine ev_icmple 202 211 d_mo_readText_202 (fun c202 => ?_) (fun c202 => ?_)
            · refine ev_iload_5 211 d_mo_readText_211 ?_
              refine ev_sipush (237) 213 d_mo_readText_213 (by decide) ?_
              refine ev_icmpne 216 225 d_mo_readText_216 (fun c216 => ?_) (fun c216 => ?_)
              · refine ev_iload_5 225 d_mo_readText_225 ?_
                refine ev_sipush (244) 227 d_mo_readText_227 (by decide) ?_
                refine ev_icmpne 230 239 d_mo_readText_230 (fun c230 => ?_) (fun c230 => ?_)
                · refine ev_sipush (191) 239 d_mo_readText_239 (by decide) ?_
                  refine ev_topi (tx_hi (tx_b (B 13) ii (fr + k)) q) (Eq.symm (by rw [tx_hi, if_pos (show q = 0 by have := n_le (q + 1) 1 c202; omega), if_neg c216, if_neg c230])) ?_
                  exact M242 o9 o10 hm9 hlt hn hne
                · refine ev_sipush (143) 233 d_mo_readText_233 (by decide) ?_
                  refine ev_goto 236 242 d_mo_readText_236 ?_
                  refine ev_topi (tx_hi (tx_b (B 13) ii (fr + k)) q) (Eq.symm (by rw [tx_hi, if_pos (show q = 0 by have := n_le (q + 1) 1 c202; omega), if_neg c216, if_pos c230])) ?_
                  exact M242 o9 o10 hm9 hlt hn hne
              · refine ev_sipush (159) 219 d_mo_readText_219 (by decide) ?_
                refine ev_goto 222 242 d_mo_readText_222 ?_
                refine ev_topi (tx_hi (tx_b (B 13) ii (fr + k)) q) (Eq.symm (by rw [tx_hi, if_pos (show q = 0 by have := n_le (q + 1) 1 c202; omega), if_pos c216])) ?_
                exact M242 o9 o10 hm9 hlt hn hne
            · refine ev_sipush (191) 205 d_mo_readText_205 (by decide) ?_
              refine ev_goto 208 242 d_mo_readText_208 ?_
              refine ev_topi (tx_hi (tx_b (B 13) ii (fr + k)) q) (Eq.symm (by rw [tx_hi, if_neg (show ¬ q = 0 by have := n_nle (q + 1) 1 c202; omega)])) ?_
              exact M242 o9 o10 hm9 hlt hn hne
          refine ev_iload_7 119 d_mo_readText_119 ?_
          refine ev_iload_6 121 d_mo_readText_121 ?_
          refine ev_icmpgt 123 287 d_mo_readText_123 (fun c123 => ?_) (fun c123 => ?_)
          · have hq4 : q ≤ 3 := Nat.le_trans hq hq3
            have hge : (tx_mr (tx_b (B 13) ii (fr + k))).toNatClampNeg = q := by
              rcases tx_mr_in (tx_b (B 13) ii (fr + k)) with z | z | z | z | z
              · rw [z] at c123 hq ⊢; have := n_lt 0 (q + 1) c123; show (0 : Nat) = q; change q ≤ 0 at hq; omega
              · rw [z] at c123 hq ⊢; have := n_lt 1 (q + 1) c123; show (1 : Nat) = q; change q ≤ 1 at hq; omega
              · rw [z] at c123 hq ⊢; have := n_lt 2 (q + 1) c123; show (2 : Nat) = q; change q ≤ 2 at hq; omega
              · rw [z] at c123 hq ⊢; have := n_lt 3 (q + 1) c123; show (3 : Nat) = q; change q ≤ 3 at hq; omega
              · rw [z] at hq ⊢; show (0 : Nat) = q; change q ≤ 0 at hq; omega
            exact ev_eq (M287 (some (.int (nI (q + 1)))) o8 o9 o10 hkn) (h3 := by rw [tx_g, hge])
          · refine ev_aload_0 126 d_mo_readText_126 ?_
            refine mo_geti 127 54 d_mo_readText_127 lk_224 ?_
            refine ev_ifne 130 287 d_mo_readText_130 (fun c130 => ?_) (fun c130 => ?_)
            · cases hc : tx_c (B 13) ii fr mn k q with
              | none => exact absurd (by rw [hc]; exact h0) c130
              | some r => exact ev_eq (M287 (some (.int (nI (q + 1)))) o8 o9 o10 hkn) (h3 := by rw [tx_g, tx_c1 hc _ hq])
            · have hq4 : q ≤ 3 := Nat.le_trans hq hq3
              have hlt : q < (tx_mr (tx_b (B 13) ii (fr + k))).toNatClampNeg := by
                rcases tx_mr_in (tx_b (B 13) ii (fr + k)) with z | z | z | z | z
                · rw [z] at c123; exact absurd (n_nlt 0 (q + 1) c123) (by omega)
                · rw [z] at c123 ⊢; exact Nat.lt_of_succ_le (n_nlt 1 (q + 1) c123)
                · rw [z] at c123 ⊢; exact Nat.lt_of_succ_le (n_nlt 2 (q + 1) c123)
                · rw [z] at c123 ⊢; exact Nat.lt_of_succ_le (n_nlt 3 (q + 1) c123)
                · rw [z] at c123; exact absurd (Int32.lt_of_lt_of_le (by decide) (nI_pos' (by omega))) c123
              have hn : tx_c (B 13) ii fr mn k q = none := (mo_fo54 h0 (fun r hr => tx_cc hr)).mp c130
              refine ev_eq (ws' := mo_W mo_ci am kI kZ F B) ?_ (h3 := by rw [hn]; rfl)
              refine ev_iload_4 133 d_mo_readText_133 ?_
              refine ev_iload_7 135 d_mo_readText_135 ?_
              refine ev_iadd 137 d_mo_readText_137 ?_
              refine ev_iload_3 138 d_mo_readText_138 ?_
              refine ev_icmpne 139 154 d_mo_readText_139 (fun c139 => ?_) (fun c139 => ?_)
              · have hne : k + (q + 1) ≠ mn := fun z => c139 (by rw [nI_add, z])
                refine ev_iload_7 154 d_mo_readText_154 ?_
                refine ev_iconst_1 156 d_mo_readText_156 ?_
                refine ev_icmple 157 166 d_mo_readText_157 (fun c157 => ?_) (fun c157 => ?_)
                · refine ev_iload_5 166 d_mo_readText_166 ?_
                  refine ev_sipush (224) 168 d_mo_readText_168 (by decide) ?_
                  refine ev_icmpne 171 180 d_mo_readText_171 (fun c171 => ?_) (fun c171 => ?_)
                  · refine ev_iload_5 180 d_mo_readText_180 ?_
                    refine ev_sipush (240) 182 d_mo_readText_182 (by decide) ?_
                    refine ev_icmpne 185 194 d_mo_readText_185 (fun c185 => ?_) (fun c185 => ?_)
                    · refine ev_sipush (128) 194 d_mo_readText_194 (by decide) ?_
                      refine ev_topi (tx_lo (tx_b (B 13) ii (fr + k)) q) (Eq.symm (by rw [tx_lo, if_pos (show q = 0 by have := n_le (q + 1) 1 c157; omega), if_neg c171, if_neg c185])) ?_
                      exact M197 o8 o9 o10 hm2 hlt hn hne
                    · refine ev_sipush (144) 188 d_mo_readText_188 (by decide) ?_
                      refine ev_goto 191 197 d_mo_readText_191 ?_
                      refine ev_topi (tx_lo (tx_b (B 13) ii (fr + k)) q) (Eq.symm (by rw [tx_lo, if_pos (show q = 0 by have := n_le (q + 1) 1 c157; omega), if_neg c171, if_pos c185])) ?_
                      exact M197 o8 o9 o10 hm2 hlt hn hne
                  · refine ev_sipush (160) 174 d_mo_readText_174 (by decide) ?_
                    refine ev_goto 177 197 d_mo_readText_177 ?_
                    refine ev_topi (tx_lo (tx_b (B 13) ii (fr + k)) q) (Eq.symm (by rw [tx_lo, if_pos (show q = 0 by have := n_le (q + 1) 1 c157; omega), if_pos c171])) ?_
                    exact M197 o8 o9 o10 hm2 hlt hn hne
                · refine ev_sipush (128) 160 d_mo_readText_160 (by decide) ?_
                  refine ev_goto 163 197 d_mo_readText_163 ?_
                  refine ev_topi (tx_lo (tx_b (B 13) ii (fr + k)) q) (Eq.symm (by rw [tx_lo, if_neg (show ¬ q = 0 by have := n_nle (q + 1) 1 c157; omega)])) ?_
                  exact M197 o8 o9 o10 hm2 hlt hn hne
              · refine ev_aload_0 142 d_mo_readText_142 ?_
                refine ev_iconst_4 143 d_mo_readText_143 ?_
                refine ev_iload_2 144 d_mo_readText_144 ?_
                refine ev_iload_4 145 d_mo_readText_145 ?_
                refine ev_iadd 147 d_mo_readText_147 ?_
                refine ev_topi (nI (fr + k)) (by rw [nI_add]) ?_
                refine mo_callv2 148 d_mo_readText_148 hZ kc_230 (mt_fails hZ _ _) (fun F9 B9 h => ?_)
                obtain ⟨e1, e2⟩ := h
                subst F9
                subst B9
                refine ev_goto 151 281 d_mo_readText_151 ?_
                refine ev_iinc_7 281 d_mo_readText_281 ?_
                refine ev_goto 284 119 d_mo_readText_284 ?_
                exact ev_eq (ih2 (q + 1) _ _ _ (by omega) (by omega) hkn) (h1 := by rw [n_i1]) (h3 := by rw [tx_s3 hn (n_eq (k + (q + 1)) mn c139 (by rw [nI_add]))])
      have M100 : ∀ (F1 : Nat → Int32) (o6 o7 o8 o9 o10 : Option Value), ¬ mn ≤ k → (256 ≤ fr + k ∧ F1 = mo_fl F 1 (nI (fr + k)) ∨ ¬ 256 ≤ fr + k ∧ F1 = F) → EV (mo_π l D cl_A kI kZ tl Z) m_readText (ev_E (mo_π l D cl_A kI kZ tl Z) 0 0 (mo_qv am kI kZ (fun F1 B1 => F1 = mo_fo F (tx_r (B 13) ii fr mn (mn + 1) 0) ∧ B1 = B))) 0 0 100 [some (.ref (am 60)), some (.int (nI ii)), some (.int (nI fr)), some (.int (nI mn)), some (.int (nI k)), some (.int (tx_b (B 13) ii (fr + k))), o6, o7, o8, o9, o10] [.int (tx_mr (tx_b (B 13) ii (fr + k)))] (mo_W mo_ci am kI kZ F1 B) := by
        intro F1 o6 o7 o8 o9 o10 hkn hF1
        refine ev_istore_6 100 d_mo_readText_100 ?_
        refine ev_iload_6 102 d_mo_readText_102 ?_
        refine ev_ifge 104 116 d_mo_readText_104 (fun c104 => ?_) (fun c104 => ?_)
        · refine ev_iconst_1 116 d_mo_readText_116 ?_
          refine ev_istore_7 117 d_mo_readText_117 ?_
          have hm3 : (tx_mr (tx_b (B 13) ii (fr + k))).toNatClampNeg ≤ 3 := by rcases tx_mr_in (tx_b (B 13) ii (fr + k)) with z | z | z | z | z <;> rw [z] <;> decide
          exact ev_eq (M119 4 0 o8 o9 o10 (by omega) (Nat.zero_le _) hkn) (h3 := by rw [tx_f0 hF1 c104])
        · refine ev_aload_0 107 d_mo_readText_107 ?_
          refine ev_iconst_4 108 d_mo_readText_108 ?_
          refine ev_iload_2 109 d_mo_readText_109 ?_
          refine ev_iload_4 110 d_mo_readText_110 ?_
          refine ev_iadd 112 d_mo_readText_112 ?_
          refine ev_topi (nI (fr + k)) (by rw [nI_add]) ?_
          refine mo_callv2 113 d_mo_readText_113 hZ kc_230 (mt_fails hZ _ _) (fun F9 B9 h => ?_)
          obtain ⟨e1, e2⟩ := h
          subst F9
          subst B9
          refine ev_iconst_1 116 d_mo_readText_116 ?_
          refine ev_istore_7 117 d_mo_readText_117 ?_
          have hm3 : (tx_mr (tx_b (B 13) ii (fr + k))).toNatClampNeg ≤ 3 := by rcases tx_mr_in (tx_b (B 13) ii (fr + k)) with z | z | z | z | z <;> rw [z] <;> decide
          exact ev_eq (M119 4 0 o8 o9 o10 (by omega) (Nat.zero_le _) hkn) (h3 := by rw [tx_f1 h0 hF1 c104])
      refine ev_iload_4 3 d_mo_readText_3 ?_
      refine ev_iload_3 5 d_mo_readText_5 ?_
      refine ev_icmpge 6 299 d_mo_readText_6 (fun c6 => ?_) (fun c6 => ?_)
      · refine ev_vret 299 d_mo_readText_299 rfl ?_
        exact ⟨_, _, rfl, rfl, by rw [hr, tx_r, if_pos (n_le mn k c6)]; rfl, rfl⟩
      · refine ev_aload_0 9 d_mo_readText_9 ?_
        refine mo_geti 10 54 d_mo_readText_10 lk_224 ?_
        refine ev_ifne 13 299 d_mo_readText_13 (fun c13 => ?_) (fun c13 => ?_)
        · exact absurd h0 c13
        · refine ev_aload_0 16 d_mo_readText_16 ?_
          refine ev_iload_1 17 d_mo_readText_17 ?_
          refine ev_iload_2 18 d_mo_readText_18 ?_
          refine ev_iload_4 19 d_mo_readText_19 ?_
          refine ev_iadd 21 d_mo_readText_21 ?_
          refine ev_topi (nI (fr + k)) (by rw [nI_add]) ?_
          refine mo_calli2 22 d_mo_readText_22 hZ kc_234 (mt_byteAt hZ (nI ii) _ (mo_bb hii _)) (fun y F1 B1 h => ?_)
          obtain ⟨hb, e2⟩ := h
          subst B1
          obtain ⟨hy, hF1⟩ := tx_f (by omega) hii (mo_bp0 h0 hb)
          subst hy
          refine ev_istore_5 25 d_mo_readText_25 ?_
          refine ev_iload_5 27 d_mo_readText_27 ?_
          refine ev_sipush (128) 29 d_mo_readText_29 (by decide) ?_
          refine ev_icmpge 32 39 d_mo_readText_32 (fun c32 => ?_) (fun c32 => ?_)
          · refine ev_iload_5 39 d_mo_readText_39 ?_
            refine ev_sipush (194) 41 d_mo_readText_41 (by decide) ?_
            refine ev_icmplt 44 59 d_mo_readText_44 (fun c44 => ?_) (fun c44 => ?_)
            · refine ev_iload_5 59 d_mo_readText_59 ?_
              refine ev_sipush (224) 61 d_mo_readText_61 (by decide) ?_
              refine ev_icmplt 64 79 d_mo_readText_64 (fun c64 => ?_) (fun c64 => ?_)
              · refine ev_iload_5 79 d_mo_readText_79 ?_
                refine ev_sipush (240) 81 d_mo_readText_81 (by decide) ?_
                refine ev_icmplt 84 99 d_mo_readText_84 (fun c84 => ?_) (fun c84 => ?_)
                · refine ev_iconst_m1 99 d_mo_readText_99 ?_
                  refine ev_topi (tx_mr (tx_b (B 13) ii (fr + k))) (Eq.symm (by rw [tx_mr, if_pos c32, if_neg (fun z => z.1 c44), if_neg (fun z => z.1 c64), if_neg (fun z => z.1 c84)])) ?_
                  exact M100 F1 o6 o7 o8 o9 o10 (fun z => c6 ((nI_leI (by omega) (by omega)).mpr z)) hF1
                · refine ev_iload_5 87 d_mo_readText_87 ?_
                  refine ev_sipush (244) 89 d_mo_readText_89 (by decide) ?_
                  refine ev_icmpgt 92 99 d_mo_readText_92 (fun c92 => ?_) (fun c92 => ?_)
                  · refine ev_iconst_m1 99 d_mo_readText_99 ?_
                    refine ev_topi (tx_mr (tx_b (B 13) ii (fr + k))) (Eq.symm (by rw [tx_mr, if_pos c32, if_neg (fun z => z.1 c44), if_neg (fun z => z.1 c64), if_neg (fun z => z.2 c92)])) ?_
                    exact M100 F1 o6 o7 o8 o9 o10 (fun z => c6 ((nI_leI (by omega) (by omega)).mpr z)) hF1
                  · refine ev_iconst_3 95 d_mo_readText_95 ?_
                    refine ev_goto 96 100 d_mo_readText_96 ?_
                    refine ev_topi (tx_mr (tx_b (B 13) ii (fr + k))) (Eq.symm (by rw [tx_mr, if_pos c32, if_neg (fun z => z.1 c44), if_neg (fun z => z.1 c64), if_pos ⟨c84, c92⟩])) ?_
                    exact M100 F1 o6 o7 o8 o9 o10 (fun z => c6 ((nI_leI (by omega) (by omega)).mpr z)) hF1
              · refine ev_iload_5 67 d_mo_readText_67 ?_
                refine ev_sipush (239) 69 d_mo_readText_69 (by decide) ?_
                refine ev_icmpgt 72 79 d_mo_readText_72 (fun c72 => ?_) (fun c72 => ?_)
                · refine ev_iload_5 79 d_mo_readText_79 ?_
                  refine ev_sipush (240) 81 d_mo_readText_81 (by decide) ?_
                  refine ev_icmplt 84 99 d_mo_readText_84 (fun c84 => ?_) (fun c84 => ?_)
                  · refine ev_iconst_m1 99 d_mo_readText_99 ?_
                    refine ev_topi (tx_mr (tx_b (B 13) ii (fr + k))) (Eq.symm (by rw [tx_mr, if_pos c32, if_neg (fun z => z.1 c44), if_neg (fun z => z.2 c72), if_neg (fun z => z.1 c84)])) ?_
                    exact M100 F1 o6 o7 o8 o9 o10 (fun z => c6 ((nI_leI (by omega) (by omega)).mpr z)) hF1
                  · refine ev_iload_5 87 d_mo_readText_87 ?_
                    refine ev_sipush (244) 89 d_mo_readText_89 (by decide) ?_
                    refine ev_icmpgt 92 99 d_mo_readText_92 (fun c92 => ?_) (fun c92 => ?_)
                    · refine ev_iconst_m1 99 d_mo_readText_99 ?_
                      refine ev_topi (tx_mr (tx_b (B 13) ii (fr + k))) (Eq.symm (by rw [tx_mr, if_pos c32, if_neg (fun z => z.1 c44), if_neg (fun z => z.2 c72), if_neg (fun z => z.2 c92)])) ?_
                      exact M100 F1 o6 o7 o8 o9 o10 (fun z => c6 ((nI_leI (by omega) (by omega)).mpr z)) hF1
                    · refine ev_iconst_3 95 d_mo_readText_95 ?_
                      refine ev_goto 96 100 d_mo_readText_96 ?_
                      refine ev_topi (tx_mr (tx_b (B 13) ii (fr + k))) (Eq.symm (by rw [tx_mr, if_pos c32, if_neg (fun z => z.1 c44), if_neg (fun z => z.2 c72), if_pos ⟨c84, c92⟩])) ?_
                      exact M100 F1 o6 o7 o8 o9 o10 (fun z => c6 ((nI_leI (by omega) (by omega)).mpr z)) hF1
                · refine ev_iconst_2 75 d_mo_readText_75 ?_
                  refine ev_goto 76 100 d_mo_readText_76 ?_
                  refine ev_topi (tx_mr (tx_b (B 13) ii (fr + k))) (Eq.symm (by rw [tx_mr, if_pos c32, if_neg (fun z => z.1 c44), if_pos ⟨c64, c72⟩])) ?_
                  exact M100 F1 o6 o7 o8 o9 o10 (fun z => c6 ((nI_leI (by omega) (by omega)).mpr z)) hF1
            · refine ev_iload_5 47 d_mo_readText_47 ?_
              refine ev_sipush (223) 49 d_mo_readText_49 (by decide) ?_
              refine ev_icmpgt 52 59 d_mo_readText_52 (fun c52 => ?_) (fun c52 => ?_)
              · refine ev_iload_5 59 d_mo_readText_59 ?_
                refine ev_sipush (224) 61 d_mo_readText_61 (by decide) ?_
                refine ev_icmplt 64 79 d_mo_readText_64 (fun c64 => ?_) (fun c64 => ?_)
                · refine ev_iload_5 79 d_mo_readText_79 ?_
                  refine ev_sipush (240) 81 d_mo_readText_81 (by decide) ?_
                  refine ev_icmplt 84 99 d_mo_readText_84 (fun c84 => ?_) (fun c84 => ?_)
                  · refine ev_iconst_m1 99 d_mo_readText_99 ?_
                    refine ev_topi (tx_mr (tx_b (B 13) ii (fr + k))) (Eq.symm (by rw [tx_mr, if_pos c32, if_neg (fun z => z.2 c52), if_neg (fun z => z.1 c64), if_neg (fun z => z.1 c84)])) ?_
                    exact M100 F1 o6 o7 o8 o9 o10 (fun z => c6 ((nI_leI (by omega) (by omega)).mpr z)) hF1
                  · refine ev_iload_5 87 d_mo_readText_87 ?_
                    refine ev_sipush (244) 89 d_mo_readText_89 (by decide) ?_
                    refine ev_icmpgt 92 99 d_mo_readText_92 (fun c92 => ?_) (fun c92 => ?_)
                    · refine ev_iconst_m1 99 d_mo_readText_99 ?_
                      refine ev_topi (tx_mr (tx_b (B 13) ii (fr + k))) (Eq.symm (by rw [tx_mr, if_pos c32, if_neg (fun z => z.2 c52), if_neg (fun z => z.1 c64), if_neg (fun z => z.2 c92)])) ?_
                      exact M100 F1 o6 o7 o8 o9 o10 (fun z => c6 ((nI_leI (by omega) (by omega)).mpr z)) hF1
                    · refine ev_iconst_3 95 d_mo_readText_95 ?_
                      refine ev_goto 96 100 d_mo_readText_96 ?_
                      refine ev_topi (tx_mr (tx_b (B 13) ii (fr + k))) (Eq.symm (by rw [tx_mr, if_pos c32, if_neg (fun z => z.2 c52), if_neg (fun z => z.1 c64), if_pos ⟨c84, c92⟩])) ?_
                      exact M100 F1 o6 o7 o8 o9 o10 (fun z => c6 ((nI_leI (by omega) (by omega)).mpr z)) hF1
                · refine ev_iload_5 67 d_mo_readText_67 ?_
                  refine ev_sipush (239) 69 d_mo_readText_69 (by decide) ?_
                  refine ev_icmpgt 72 79 d_mo_readText_72 (fun c72 => ?_) (fun c72 => ?_)
                  · refine ev_iload_5 79 d_mo_readText_79 ?_
                    refine ev_sipush (240) 81 d_mo_readText_81 (by decide) ?_
                    refine ev_icmplt 84 99 d_mo_readText_84 (fun c84 => ?_) (fun c84 => ?_)
                    · refine ev_iconst_m1 99 d_mo_readText_99 ?_
                      refine ev_topi (tx_mr (tx_b (B 13) ii (fr + k))) (Eq.symm (by rw [tx_mr, if_pos c32, if_neg (fun z => z.2 c52), if_neg (fun z => z.2 c72), if_neg (fun z => z.1 c84)])) ?_
                      exact M100 F1 o6 o7 o8 o9 o10 (fun z => c6 ((nI_leI (by omega) (by omega)).mpr z)) hF1
                    · refine ev_iload_5 87 d_mo_readText_87 ?_
                      refine ev_sipush (244) 89 d_mo_readText_89 (by decide) ?_
                      refine ev_icmpgt 92 99 d_mo_readText_92 (fun c92 => ?_) (fun c92 => ?_)
                      · refine ev_iconst_m1 99 d_mo_readText_99 ?_
                        refine ev_topi (tx_mr (tx_b (B 13) ii (fr + k))) (Eq.symm (by rw [tx_mr, if_pos c32, if_neg (fun z => z.2 c52), if_neg (fun z => z.2 c72), if_neg (fun z => z.2 c92)])) ?_
                        exact M100 F1 o6 o7 o8 o9 o10 (fun z => c6 ((nI_leI (by omega) (by omega)).mpr z)) hF1
                      · refine ev_iconst_3 95 d_mo_readText_95 ?_
                        refine ev_goto 96 100 d_mo_readText_96 ?_
                        refine ev_topi (tx_mr (tx_b (B 13) ii (fr + k))) (Eq.symm (by rw [tx_mr, if_pos c32, if_neg (fun z => z.2 c52), if_neg (fun z => z.2 c72), if_pos ⟨c84, c92⟩])) ?_
                        exact M100 F1 o6 o7 o8 o9 o10 (fun z => c6 ((nI_leI (by omega) (by omega)).mpr z)) hF1
                  · refine ev_iconst_2 75 d_mo_readText_75 ?_
                    refine ev_goto 76 100 d_mo_readText_76 ?_
                    refine ev_topi (tx_mr (tx_b (B 13) ii (fr + k))) (Eq.symm (by rw [tx_mr, if_pos c32, if_neg (fun z => z.2 c52), if_pos ⟨c64, c72⟩])) ?_
                    exact M100 F1 o6 o7 o8 o9 o10 (fun z => c6 ((nI_leI (by omega) (by omega)).mpr z)) hF1
              · refine ev_iconst_1 55 d_mo_readText_55 ?_
                refine ev_goto 56 100 d_mo_readText_56 ?_
                refine ev_topi (tx_mr (tx_b (B 13) ii (fr + k))) (Eq.symm (by rw [tx_mr, if_pos c32, if_pos ⟨c44, c52⟩])) ?_
                exact M100 F1 o6 o7 o8 o9 o10 (fun z => c6 ((nI_leI (by omega) (by omega)).mpr z)) hF1
          · refine ev_iconst_0 35 d_mo_readText_35 ?_
            refine ev_goto 36 100 d_mo_readText_36 ?_
            refine ev_topi (tx_mr (tx_b (B 13) ii (fr + k))) (Eq.symm (by rw [tx_mr, if_neg c32])) ?_
            exact M100 F1 o6 o7 o8 o9 o10 (fun z => c6 ((nI_leI (by omega) (by omega)).mpr z)) hF1
  refine ev_iconst_0 0 d_mo_readText_0 ?_
  refine ev_istore_4 1 d_mo_readText_1 ?_
  exact L3 (mn + 1) 0 _ _ _ _ _ _ (by omega) (by omega) rfl
