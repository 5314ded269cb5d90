/-! reading an item: pure rows -/
section RD3
variable {B : Nat → Nat → Int32} {ct : Nat → Nat} {ii tt uu nn : Nat} {p ab inn q : Int32} {r : Int32 × Int32}
theorem ri_200 (h1 : nn = 200) : ri_1 B ct ii tt uu p ab inn nn = .inl (10, p) := by rw [ri_1, if_pos h1]
theorem ri_al (h1 : ¬ nn = 200) (h2 : ¬ p - p / B 5 tt * B 5 tt = 0) : ri_1 B ct ii tt uu p ab inn nn = .inl (5, p) := by rw [ri_1, if_neg h1, if_pos h2]
theorem ri_6a (h1 : ¬ nn = 200) (h2 : p - p / B 5 tt * B 5 tt = 0) (hk : B 2 tt = 6) (hh : ri_h p = some q) : ri_1 B ct ii tt uu p ab inn nn = .inl (1, q) := by
  rw [ri_1, if_neg h1, if_neg (fun z => z h2), if_pos hk, hh]
theorem ri_6b (h1 : ¬ nn = 200) (h2 : p - p / B 5 tt * B 5 tt = 0) (hk : B 2 tt = 6) (hh : ri_h p = none) (ht : tx_r (B 13) ii (mo_nb (B 13) ii p 2).toNatClampNeg (mo_nb (B 13) ii (p + 2) 2).toNatClampNeg ((mo_nb (B 13) ii (p + 2) 2).toNatClampNeg + 1) 0 = some r) : ri_1 B ct ii tt uu p ab inn nn = .inl r := by
  rw [ri_1, if_neg h1, if_neg (fun z => z h2), if_pos hk, hh]
  dsimp only
  rw [ht]
theorem ri_6c (h1 : ¬ nn = 200) (h2 : p - p / B 5 tt * B 5 tt = 0) (hk : B 2 tt = 6) (hh : ri_h p = none) (ht : tx_r (B 13) ii (mo_nb (B 13) ii p 2).toNatClampNeg (mo_nb (B 13) ii (p + 2) 2).toNatClampNeg ((mo_nb (B 13) ii (p + 2) 2).toNatClampNeg + 1) 0 = none) : ri_1 B ct ii tt uu p ab inn nn = .inr (ri_B1 B ii nn uu p ab inn, 0, fun _ => (0, 0, 0, 0, 0, 0)) := by
  rw [ri_1, if_neg h1, if_neg (fun z => z h2), if_pos hk, hh]
  dsimp only
  rw [ht]
theorem ri_8a (h1 : ¬ nn = 200) (h2 : p - p / B 5 tt * B 5 tt = 0) (hk : B 2 tt = 8) (hh : ri_h p = some q) : ri_1 B ct ii tt uu p ab inn nn = .inl (1, q) := by
  rw [ri_1, if_neg h1, if_neg (fun z => z h2), if_neg (by rw [hk]; decide), if_pos hk, hh]
theorem ri_8b (h1 : ¬ nn = 200) (h2 : p - p / B 5 tt * B 5 tt = 0) (hk : B 2 tt = 8) (hh : ri_h p = none) : ri_1 B ct ii tt uu p ab inn nn = if mo_nb (B 13) ii (p + 2) 2 ≤ 0 then .inr (ri_B1 B ii nn uu p ab inn, 0, fun _ => (0, 0, 0, 0, 0, 0)) else .inr (ri_B1 B ii nn uu p ab inn, 1, fun _ => (B 8 (6 * tt), B 8 (6 * uu), mo_nb (B 13) ii (p + 2) 2, mo_nb (B 13) ii p 2, nI nn, 0)) := by
  rw [ri_1, if_neg h1, if_neg (fun z => z h2), if_neg (by rw [hk]; decide), if_pos hk, hh]
theorem ri_9 (h1 : ¬ nn = 200) (h2 : p - p / B 5 tt * B 5 tt = 0) (hk : B 2 tt = 9) : ri_1 B ct ii tt uu p ab inn nn = .inr (ri_B0 B nn uu p ab inn, ty_sh ct tt uu, fun j => ri_e B tt uu p nn (ty_sh ct tt uu - 1 - j)) := by
  rw [ri_1, if_neg h1, if_neg (fun z => z h2), if_neg (by rw [hk]; decide), if_neg (by rw [hk]; decide), if_pos hk]
theorem ri_10 (h1 : ¬ nn = 200) (h2 : p - p / B 5 tt * B 5 tt = 0) (hk : B 2 tt = 10) : ri_1 B ct ii tt uu p ab inn nn = if p < 0 ∨ 255 < p then .inl (1, p) else if ¬ B 13 (256 * nI ii + p).toNatClampNeg < B 7 tt then .inl (2, p)
    else .inr (ri_B0 B nn uu p ab inn, 1, fun _ => ri_e B tt uu p nn (B 13 (256 * nI ii + p).toNatClampNeg).toNatClampNeg) := by
  rw [ri_1, if_neg h1, if_neg (fun z => z h2), if_neg (by rw [hk]; decide), if_neg (by rw [hk]; decide), if_neg (by rw [hk]; decide), if_pos hk]
theorem ri_11 (h1 : ¬ nn = 200) (h2 : p - p / B 5 tt * B 5 tt = 0) (hk : ¬ B 2 tt ≤ 10) : ri_1 B ct ii tt uu p ab inn nn = match (mo_rh (ri_B0 B nn uu p ab inn) ii tt p nn).1 with
    | some r => .inl r
    | none => .inr ((mo_rh (ri_B0 B nn uu p ab inn) ii tt p nn).2, 0, fun _ => (0, 0, 0, 0, 0, 0)) := by
  have g : ∀ c : Int32, c ≤ 10 → ¬ B 2 tt = c := fun c hc z => hk (z ▸ hc)
  rw [ri_1, if_neg h1, if_neg (fun z => z h2), if_neg (g 6 (by decide)), if_neg (g 8 (by decide)), if_neg (g 9 (by decide)), if_neg (g 10 (by decide)), if_pos hk]
  cases (mo_rh (ri_B0 B nn uu p ab inn) ii tt p nn).1 <;> rfl
theorem ri_0 (h1 : ¬ nn = 200) (h2 : p - p / B 5 tt * B 5 tt = 0) (k6 : ¬ B 2 tt = 6) (k8 : ¬ B 2 tt = 8) (k9 : ¬ B 2 tt = 9) (k10 : ¬ B 2 tt = 10) (hk : B 2 tt ≤ 10) : ri_1 B ct ii tt uu p ab inn nn = match mo_rp B ii tt p with
    | some r => .inl r
    | none => .inr (ri_B0 B nn uu p ab inn, 0, fun _ => (0, 0, 0, 0, 0, 0)) := by
  rw [ri_1, if_neg h1, if_neg (fun z => z h2), if_neg k6, if_neg k8, if_neg k9, if_neg k10, if_neg (fun z => z hk)]
  cases mo_rp B ii tt p <;> rfl
theorem rd_l {T4 : Nat → Int32} {d : Nat} (h : ri_1 B ct ii tt uu p ab inn nn = .inl r) : rd_i T4 ct ii (d + 1) tt uu p ab inn nn B = .inl r := by
  rw [rd_i, h]
theorem rd_0 {T4 : Nat → Int32} {d : Nat} {B1 : Nat → Nat → Int32} {e : Nat → ri_E} (h : ri_1 B ct ii tt uu p ab inn nn = .inr (B1, 0, e)) : rd_i T4 ct ii (d + 1) tt uu p ab inn nn B = .inr (nn + 1, B1) := by
  rw [rd_i, h]
  rfl
theorem rd_s1 {g : ri_E → Nat → (Nat → Nat → Int32) → rd_R} {e : Nat → ri_E} {n : Nat} {B : Nat → Nat → Int32} : rd_s g e 1 n B = g (e 0) n B := by
  rw [rd_s]
  cases g (e 0) n B with
  | inl x => rfl
  | inr q => rfl
theorem rB0_k {f : Nat} (h : f < 44 ∨ 47 < f) : ri_B0 B nn uu p ab inn f = B f := by
  unfold ri_B0
  rw [va_up_ne _ _ (by omega), va_up_ne _ _ (by omega), va_up_ne _ _ (by omega), va_up_ne _ _ (by omega)]
theorem rB1_k {f : Nat} (h : f < 44 ∨ 49 < f) : ri_B1 B ii nn uu p ab inn f = B f := by
  unfold ri_B1
  rw [va_up_ne _ _ (by omega), va_up_ne _ _ (by omega), rB0_k (by omega)]
theorem rB0_44 : ri_B0 B nn uu p ab inn 44 nn = nI uu := by
  unfold ri_B0
  rw [va_up_ne _ _ (by decide), va_up_ne _ _ (by decide), va_up_ne _ _ (by decide), va_up_self, upd_eq]
theorem rB0_45 : ri_B0 B nn uu p ab inn 45 nn = p := by
  unfold ri_B0
  rw [va_up_ne _ _ (by decide), va_up_ne _ _ (by decide), va_up_self, upd_eq]
theorem rB0_kp : kp nn B (ri_B0 B nn uu p ab inn) := by
  intro f h1 h2 k hk
  have e : k ≠ nn := by omega
  unfold ri_B0
  obtain rfl | rfl | rfl | rfl | h : f = 44 ∨ f = 45 ∨ f = 46 ∨ f = 47 ∨ 47 < f := by omega
  · rw [va_up_ne _ _ (by decide), va_up_ne _ _ (by decide), va_up_ne _ _ (by decide), va_up_self, upd_ne e]
  · rw [va_up_ne _ _ (by decide), va_up_ne _ _ (by decide), va_up_self, upd_ne e]
  · rw [va_up_ne _ _ (by decide), va_up_self, upd_ne e]
  · rw [va_up_self, upd_ne e]
  · rw [va_up_ne _ _ (by omega), va_up_ne _ _ (by omega), va_up_ne _ _ (by omega), va_up_ne _ _ (by omega)]
theorem rB1_44 : ri_B1 B ii nn uu p ab inn 44 nn = nI uu := by
  unfold ri_B1
  rw [va_up_ne _ _ (by decide), va_up_ne _ _ (by decide)]
  exact rB0_44
theorem rB1_45 : ri_B1 B ii nn uu p ab inn 45 nn = p := by
  unfold ri_B1
  rw [va_up_ne _ _ (by decide), va_up_ne _ _ (by decide)]
  exact rB0_45
theorem rB1_48 : ri_B1 B ii nn uu p ab inn 48 nn = mo_nb (B 13) ii p 2 := by
  unfold ri_B1
  rw [va_up_ne _ _ (by decide), va_up_self, upd_eq]
theorem rB1_49 : ri_B1 B ii nn uu p ab inn 49 nn = mo_nb (B 13) ii (p + 2) 2 := by
  unfold ri_B1
  rw [va_up_self, upd_eq]
theorem rB1_kp : kp nn B (ri_B1 B ii nn uu p ab inn) := by
  intro f h1 h2 k hk
  have e : k ≠ nn := by omega
  unfold ri_B1
  obtain rfl | rfl | h : f = 48 ∨ f = 49 ∨ f < 48 := by omega
  · rw [va_up_ne _ _ (by decide), va_up_self, upd_ne e]
  · rw [va_up_self, upd_ne e]
  · rw [va_up_ne _ _ (by omega), va_up_ne _ _ (by omega)]
    exact rB0_kp f h1 (by omega) k hk
theorem rB1_sc : mo_sc B (ri_B1 B ii nn uu p ab inn) := ((ri_B0_sc B nn uu p ab inn).tr (mo_sc.up (by omega))).tr (mo_sc.up (by omega))
end RD3
section RD4
variable {K : List Nat} {am N hd : Nat → Nat} {S S2 : gS} {B0 B B2 : Nat → Nat → Int32} {i NT ni n uu : Nat} {ct : Nat → Nat} {pt : Nat → Nat → Nat}
/-- one item more -/
theorem RS.nx (h : RS K am N hd S B0 B i NT ni ct pt n) (hn : n < 200) (k : rkp S S2) (e : S2.1 10 3 = .int (nI (n + 1))) (ea : ∀ k, k < n → S2.2.1 11 k = S.2.1 11 k ∧ S2.2.1 13 k = S.2.1 13 k ∧ S2.2.2.2 12 k = S.2.2.2 12 k) (sc : mo_sc B B2) (kb : kp n B B2) (hu : uu < NT) (e44 : B2 44 n = nI uu) (hI : IR1 S2 B2 i n uu) (hA : HA am hd S2 B2 fr0 (lnB B2) ni) : RS K am N hd S2 B0 B2 i NT ni ct pt (n + 1) := by
  obtain ⟨a1, a2, a3, a4, a5, a6, a7, a8⟩ := h
  refine ⟨a1.rk k, a2.rk k, a3.rk k, a4.tr sc, e, by omega, fun k9 hk => ?_, hA⟩
  by_cases z : k9 = n
  · subst z; exact ⟨uu, hu, e44, hI⟩
  · exact (a7.tr (sc 2 (by decide) (by decide) (by decide) (by decide)) (sc 4 (by decide) (by decide) (by decide) (by decide)) (sc 13 (by decide) (by decide) (by decide) (by decide)) (sc 16 (by decide) (by decide) (by decide) (by decide)) kb ea) k9 (by omega)
theorem IR_68 {k : Nat} {fr mn : Nat} (hk : B 2 uu = 6 ∨ B 2 uu = 8) (e11 : S.2.1 11 k = B 45 k) (h1 : fr ≤ 65535) (h2 : mn ≤ 65535) (e48 : B 48 k = nI fr) (e49 : B 49 k = nI mn) (e12 : S.2.2.2 12 k = lN fr) (e13 : S.2.1 13 k = nI mn) : IR1 S B i k uu := by
  refine ⟨e11, fun _ => ⟨fr, mn, h1, h2, e48, e49, e12, e13⟩, fun z => ?_, fun z => ?_, fun z1 z2 => ?_⟩
  · rcases hk with h | h <;> exact absurd (h.symm.trans z) (by decide)
  · rcases hk with h | h <;> rw [h] at z <;> exact absurd (by decide) z
  · exact absurd hk (fun q => q.elim z1 z2)
theorem IR_9 {k : Nat} (hk : B 2 uu = 9) (e11 : S.2.1 11 k = B 45 k) : IR1 S B i k uu := by
  refine ⟨e11, fun z => ?_, fun z => ?_, fun z => ?_, fun _ _ z => absurd hk z⟩
  · rcases z with h | h <;> exact absurd (h.symm.trans hk) (by decide)
  · exact absurd (z.symm.trans hk) (by decide)
  · rw [hk] at z; exact absurd (by decide) z
theorem IR_10 {k pp b : Nat} (hk : B 2 uu = 10) (e11 : S.2.1 11 k = B 45 k) (h1 : pp < 256) (h2 : B 45 k = nI pp) (h3 : b < 256) (h4 : B 13 (256 * i + pp) = nI b) (h5 : S.2.2.2 12 k = lN b) : IR1 S B i k uu := by
  refine ⟨e11, fun z => ?_, fun _ => ⟨pp, b, h1, h2, h3, h4, h5⟩, fun z => ?_, fun _ _ _ z => absurd hk z⟩
  · rcases z with h | h <;> exact absurd (h.symm.trans hk) (by decide)
  · rw [hk] at z; exact absurd (by decide) z
theorem IR_h {k b : Nat} (hk : ¬ B 2 uu ≤ 10) (e11 : S.2.1 11 k = B 45 k) (h1 : 1 ≤ b) (h2 : b ≤ 16) (h3 : B 48 k = nI (17 * i + b)) (h4 : S.2.2.2 12 k = lN b) (h5 : ¬ B 16 (17 * i + b) = 0) : IR1 S B i k uu := by
  refine ⟨e11, fun z => ?_, fun z => ?_, fun _ => ⟨b, h1, h2, h3, h4, h5⟩, fun _ _ _ _ z => absurd z hk⟩
  · rcases z with h | h <;> exact absurd (by rw [h]; decide) hk
  · exact absurd (by rw [z]; decide) hk
theorem IR_p {k : Nat} (k6 : ¬ B 2 uu = 6) (k8 : ¬ B 2 uu = 8) (k10 : ¬ B 2 uu = 10) (hk : B 2 uu ≤ 10) (e11 : S.2.1 11 k = B 45 k) (h1 : mo_rg (B 45 k) (B 4 uu).toNatClampNeg = none) (h2 : S.2.2.2 12 k = lN (by_w B i (B 45 k) (B 4 uu).toNatClampNeg)) : IR1 S B i k uu :=
  ⟨e11, fun z => absurd z (fun q => q.elim k6 k8), fun z => absurd z k10, fun z => absurd hk z, fun _ _ _ _ _ => ⟨h1, h2⟩⟩
end RD4
theorem n_cp {B : Nat → Nat → Int32} {NT : Nat} {ct dp : Nat → Nat} {pt : Nat → Nat → Nat} (hW : ty_wf B NT ct dp pt) {t k : Nat} (ht : t < NT) (hk : k < ct t) : (B 8 (6 * t + k)).toNatClampNeg = pt t k := by
  obtain ⟨h1, h2, -⟩ := hW.2.2 t k ht hk
  have := hW.1
  rw [h1, nI_clamp (by omega)]
/-- a list read -/
theorem rd_8 {B0 B : Nat → Nat → Int32} {NT : Nat} {ct dp : Nat → Nat} {pt : Nat → Nat → Nat} {sz : Nat → Nat} {i d tt uu n fr mn : Nat} {p ab inn : Int32} (hW : ty_wf B0 NT ct dp pt) (sc : mo_sc B0 B) (h1 : ¬ n = 200) (h2 : p - p / B 5 tt * B 5 tt = 0) (hk : B 2 tt = 8) (hh : ri_h p = none) (ht : tt < NT) (hu : uu < NT) (c1 : 0 < ct tt) (c2 : 0 < ct uu) (hs : B0 4 (pt tt 0) = nI (sz (pt tt 0))) (e1 : mo_nb (B 13) i p 2 = nI fr) (e2 : mo_nb (B 13) i (p + 2) 2 = nI mn) (hmn : mn ≤ 65535) :
    rd_i (B0 4) ct i (d + 1) tt uu p ab inn n B = rd_m (fun p inn n1 B => rd_i (B0 4) ct i d (pt tt 0) (pt uu 0) p (nI n) inn n1 B) (nI (sz (pt tt 0))) (B0 4 (pt uu 0)) mn (nI fr) 0 (n + 1) (ri_B1 B i n uu p ab inn) := by
  by_cases h0 : mn = 0
  · subst h0
    rw [rd_0 (B1 := ri_B1 B i n uu p ab inn) (by rw [ri_8b h1 h2 hk hh, if_pos (by rw [e2]; decide)])]
    rfl
  · have a := n_cp hW ht c1
    have b := n_cp hW hu c2
    rw [Nat.add_zero] at a b
    rw [rd_i, ri_8b h1 h2 hk hh, if_neg (by rw [e2]; exact fun z => h0 (nb_z z (by omega)))]
    dsimp only
    rw [rd_s1]
    dsimp only
    rw [show B 8 = B0 8 from sc 8 (by decide) (by decide) (by decide) (by decide), a, b, e1, e2, nI_clamp (by omega), hs]
/-- a record read -/
theorem rd_9 {B0 B : Nat → Nat → Int32} {NT : Nat} {ct dp : Nat → Nat} {pt : Nat → Nat → Nat} {i d tt uu n : Nat} {p ab inn : Int32} (hW : ty_wf B0 NT ct dp pt) (sc : mo_sc B0 B) (h1 : ¬ n = 200) (h2 : p - p / B 5 tt * B 5 tt = 0) (hk : B 2 tt = 9) (ht : tt < NT) (hu : uu < NT) (hc : ct uu ≤ ct tt) :
    rd_i (B0 4) ct i (d + 1) tt uu p ab inn n B = rs_ch (fun j n1 B => rd_i (B0 4) ct i d (pt tt j) (pt uu j) (p + B0 9 (6 * tt + j)) (nI n) (B0 9 (6 * uu + j)) n1 B) (ct uu) 0 (n + 1) (ri_B0 B n uu p ab inn) := by
  have es : ty_sh ct tt uu = ct uu := by rw [ty_sh, if_pos hc]
  rw [rd_i, ri_9 h1 h2 hk]
  dsimp only
  rw [es]
  refine rd_s_ch (m := ct uu) (fun j hj => ?_) (ct uu) 0 (n + 1) _ (by omega)
  have a := n_cp hW ht (k := j) (by omega)
  have b := n_cp hW hu (k := j) hj
  funext n1 B1
  rw [show ct uu - 1 - (ct uu - 1 - j) = j by omega]
  unfold ri_e
  dsimp only
  rw [show B 8 = B0 8 from sc 8 (by decide) (by decide) (by decide) (by decide), show B 9 = B0 9 from sc 9 (by decide) (by decide) (by decide) (by decide), a, b]
  exact rd_m_1
/-- a variant read -/
theorem rd_10 {B0 B : Nat → Nat → Int32} {NT : Nat} {ct dp : Nat → Nat} {pt : Nat → Nat → Nat} {i d tt uu n b : Nat} {p ab inn : Int32} (hW : ty_wf B0 NT ct dp pt) (sc : mo_sc B0 B) (h1 : ¬ n = 200) (h2 : p - p / B 5 tt * B 5 tt = 0) (hk : B 2 tt = 10) (ht : tt < NT) (hu : uu < NT) (hc : ct tt ≤ ct uu) (hp : ¬ (p < 0 ∨ 255 < p)) (hX : B 13 (256 * nI i + p).toNatClampNeg = nI b) (hb : b < 256) (hlt : b < ct tt) :
    rd_i (B0 4) ct i (d + 1) tt uu p ab inn n B = rd_i (B0 4) ct i d (pt tt b) (pt uu b) (p + B0 9 (6 * tt + b)) (nI n) (B0 9 (6 * uu + b)) (n + 1) (ri_B0 B n uu p ab inn) := by
  have a := n_cp hW ht (k := b) hlt
  have b9 := n_cp hW hu (k := b) (by omega)
  have e7 : B 7 tt = nI (ct tt) := by rw [show B 7 = B0 7 from sc 7 (by decide) (by decide) (by decide) (by decide)]; exact (hW.2.1 tt ht).1
  rw [rd_i, ri_10 h1 h2 hk, if_neg hp, hX, e7, if_neg (fun z => z (nI_lt hlt (by have := (hW.2.1 tt ht).2.1; omega))), nI_clamp (by omega)]
  dsimp only
  rw [rd_s1]
  unfold ri_e
  dsimp only
  rw [show B 8 = B0 8 from sc 8 (by decide) (by decide) (by decide) (by decide), show B 9 = B0 9 from sc 9 (by decide) (by decide) (by decide) (by decide), a, b9]
  exact rd_m_1
theorem rp_c {B B0 : Nat → Nat → Int32} {i tt : Nat} {p : Int32} (sc : mo_sc B0 B) : mo_rp B i tt p = mo_rp B0 i tt p := by
  unfold mo_rp
  rw [show B 2 = B0 2 from sc 2 (by decide) (by decide) (by decide) (by decide), show B 3 = B0 3 from sc 3 (by decide) (by decide) (by decide) (by decide), show B 4 = B0 4 from sc 4 (by decide) (by decide) (by decide) (by decide), show B 13 = B0 13 from sc 13 (by decide) (by decide) (by decide) (by decide)]
