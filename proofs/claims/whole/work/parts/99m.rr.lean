/-! the class's state against the reference's tables -/
def rW (K : List Nat) (am N : Nat → Nat) (S : gS) (NT ni nf : Nat) : Prop := hc_w0 K am N S ∧ ∀ k, k ∈ K → k < 15 ∨ (100 ≤ k ∧ k < 100 + 3 * NT) ∨ (200 ≤ k ∧ k < 200 + 20 * ni) ∨ (400 ≤ k ∧ k < 400 + nf)
/-- types -/
def rT (K : List Nat) (am N : Nat → Nat) (S : gS) (F : Nat → Int32) (B : Nat → Nat → Int32) (NT : Nat) (ct dp : Nat → Nat) (pt : Nat → Nat → Nat) (sz al : Nat → Nat) : Prop := TyR K am N S B NT ct pt ∧ (S.1 0 1 = .int (nI NT) ∧ F 1 = nI NT) ∧ ty_wf B NT ct dp pt ∧ ty_rd B NT ct ∧ ty_sz B NT ct pt sz al ∧ ∀ t, t < NT → (al t = 1 ∨ al t = 2 ∨ al t = 4 ∨ al t = 8) ∧ B 6 t = nI (dp t) ∧ ((B 2 t = 0 ∨ B 2 t = 7) → sz t = 1) ∧ S.1 (100 + 3 * t) 6 = .int (if lb_r B ct pt 5 t = true then 1 else 0) ∧ (¬ B 2 t = 9 → ¬ B 2 t = 10 → B 4 t = mo_psz (B 2 t))
/-- the draft -/
def rD (am : Nat → Nat) (S : gS) (F : Nat → Int32) (B : Nat → Nat → Int32) (NT nd : Nat) (dr : Nat → Nat) : Prop := (S.1 0 3 = .int (nI nd) ∧ F 10 = nI nd ∧ nd ≤ 6) ∧ ∀ h, h < nd → S.2.2.1 2 h = some (am (100 + 3 * dr h)) ∧ dr h < NT ∧ B 11 h = nI (dr h)
def st4 (x : Int32) : Prop := x = 0 ∨ x = 1 ∨ x = 2 ∨ x = 3
theorem st4_up {f : Nat → Int32} {i j : Nat} {c : Int32} (h : st4 (f j)) (hc : st4 c) : st4 (upd f i c j) := by
  by_cases e : j = i
  · rw [e, upd_eq]; exact hc
  · rw [upd_ne e]; exact h
/-- instances -/
def rI (K : List Nat) (am N : Nat → Nat) (S : gS) (F : Nat → Int32) (B : Nat → Nat → Int32) (ni : Nat) (hp : Nat → Nat) : Prop := (S.1 0 5 = .int (nI ni) ∧ F 12 = nI ni ∧ ni ≤ 6) ∧ (∀ i, i < ni → in_ok K am N S i ∧ S.2.2.1 3 i = some (am (200 + 20 * i)) ∧ S.1 (200 + 20 * i) 2 = .int (B 14 i) ∧ S.1 (200 + 20 * i) 3 = .int (B 15 i) ∧ me_R S B i) ∧ (∀ j, j < 6 → B 14 j = nI (hp j) ∧ hp j ≤ 256) ∧ mo_b8 B ∧ (∀ y, 256 * ni ≤ y → B 13 y = 0) ∧ ∀ j, (ni ≤ j → B 15 j = 0) ∧ st4 (B 15 j)
/-- handles -/
def rH (am hd : Nat → Nat) (S : gS) (B : Nat → Nat → Int32) (ni : Nat) : Prop := HA am hd S B fr0 (lnB B) ni ∧ ∀ x, x < 102 → B 20 x = 0 ∧ B 21 x = 0
def rM (B : Nat → Nat → Int32) (ni Md Lv : Nat) (ru : Nat → Nat) : Prop := (∀ x, ¬ B 16 x = 0 → ∃ a h, a < ni ∧ h < 16 ∧ x = 17 * a + h + 1) ∧ (∀ x, ¬ B 16 x = 0 → ∃ r, r < Md ∧ B 17 x = nI r) ∧ (∀ y, B 18 y = 0 ∨ B 18 y = 1) ∧ (∀ x, ¬ B 16 x = 0 → ¬ B 18 x = 0 → B 24 (B 17 x).toNatClampNeg = 0) ∧ (∀ x y, ¬ B 16 x = 0 → ¬ B 18 x = 0 → ¬ B 16 y = 0 → ¬ B 18 y = 0 → B 17 x = B 17 y → x = y) ∧ ∀ x, ¬ B 16 x = 0 → B 18 x = 0 → ∃ k h h', 1 ≤ k ∧ k < Lv ∧ h < 16 ∧ x = 17 * ru k + h + 1 ∧ h' < 16 ∧ B 19 x = nI (17 * ru (k - 1) + h' + 1) ∧ ¬ B 16 (17 * ru (k - 1) + h' + 1) = 0
/-- resources -/
def rR (S : gS) (F : Nat → Int32) (B : Nat → Nat → Int32) (Md : Nat) : Prop := (F 22 = nI Md ∧ S.1 0 12 = .int (nI Md)) ∧ (∀ r, r < Md → (∃ kd, kd < 4 ∧ B 23 r = nI kd) ∧ (B 24 r = 0 ∨ B 24 r = 1)) ∧ (∀ r, Md ≤ r → B 24 r = 0) ∧ ∀ kd, kd < 4 → S.2.1 8 kd = nI (mo_rs B (nI kd) 0 Md) ∧ S.2.1 9 kd = nI (mo_rs B (nI kd) 1 Md)
/-- functions -/
def rF (K : List Nat) (am : Nat → Nat) (S : gS) (F : Nat → Int32) (B : Nat → Nat → Int32) (NT ni nf : Nat) (ct : Nat → Nat) (pt : Nat → Nat → Nat) (hm ar rs : Nat → Nat) : Prop := (S.1 0 7 = .int (nI nf) ∧ F 25 = nI nf ∧ nf ≤ 12) ∧ ∀ f, f < nf → (400 + f ∈ K ∧ S.2.2.1 4 f = some (am (400 + f)) ∧ S.1 (400 + f) 0 = .int (nI (hm f)) ∧ S.1 (400 + f) 1 = .ref (am (100 + 3 * ar f)) ∧ S.1 (400 + f) 2 = .ref (am (100 + 3 * rs f)) ∧ hm f < ni ∧ ar f < NT ∧ rs f < NT) ∧ B 26 f = nI (hm f) ∧ B 27 f = nI (ar f) ∧ B 28 f = nI (rs f) ∧ lb_r B ct pt 5 (rs f) = false
/-- the stack -/
def rS (S : gS) (F : Nat → Int32) (B : Nat → Nat → Int32) (ni nf Lv : Nat) (ru cf : Nat → Nat) : Prop := (S.1 0 11 = .int (nI Lv) ∧ F 29 = nI Lv ∧ Lv ≤ 6) ∧ (∀ k, k < Lv → S.2.1 5 k = nI (ru k) ∧ B 30 k = nI (ru k) ∧ ru k < ni ∧ B 15 (ru k) = 1 ∧ S.2.1 7 k = B 32 k) ∧ (∀ k, 1 ≤ k → k < Lv → S.2.1 6 k = nI (cf k) ∧ B 31 k = nI (cf k) ∧ cf k < nf) ∧ (∀ k k', k < k' → k' < Lv → ru k ≠ ru k') ∧ (∀ j, j < ni → B 15 j = 1 → ∃ k, k < Lv ∧ ru k = j) ∧ ∀ k, k < 6 → vp_in (B 30 k) 6
/-- the latest trap -/
def rL (S : gS) (F : Nat → Int32) : Prop := S.1 14 0 = .int (F 33) ∧ S.1 14 1 = .int (F 34) ∧ S.1 0 17 = .int (F 35)
/-- what lives goes on living, at its place -/
def kpK (K : List Nat) (am N : Nat → Nat) (K' : List Nat) (am' N' : Nat → Nat) : Prop := ∀ k, k ∈ K → k ∈ K' ∧ am' k = am k ∧ N' k = N k
theorem kpK.rf (K : List Nat) (am N : Nat → Nat) : kpK K am N K am N := fun _ h => ⟨h, rfl, rfl⟩
section RRT
variable {K K' : List Nat} {am N am' N' hd : Nat → Nat} {S S' : gS} {F F' : Nat → Int32} {B B' : Nat → Nat → Int32} {NT ni nf nd Lv Md : Nat} {ct dp sz al dr hm ar rs ru cf hp : Nat → Nat} {pt : Nat → Nat → Nat}
theorem rT.tr (h : rT K am N S F B NT ct dp pt sz al) (kk : kpK K am N K' am' N') (h1 : S'.1 0 1 = S.1 0 1) (hG : ∀ k j, k ∈ K → 100 ≤ k → k < 200 → S'.1 k j = S.1 k j) (hA : ∀ k, k ∈ K → 100 ≤ k → k < 200 → S'.2.1 k = S.2.1 k ∧ S'.2.2.1 k = S.2.2.1 k) (hQ : ∀ t, t < NT → S'.2.2.1 1 t = S.2.2.1 1 t) (hB : ∀ f, 2 ≤ f → f ≤ 9 → B' f = B f) (hF : F' 1 = F 1) : rT K' am' N' S' F' B' NT ct dp pt sz al := by
  obtain ⟨a1, ⟨a2, a2'⟩, a3, a4, a5, a6⟩ := h
  have e2 := hB 2 (by omega) (by omega)
  have hlb : ∀ d t, lb_r B' ct pt d t = lb_r B ct pt d t := by
    intro d
    induction d with
    | zero => intro t; rfl
    | succ d ih => intro t; rw [lb_r, lb_r, e2, show lb_r B' ct pt d = lb_r B ct pt d from funext ih]
  refine ⟨⟨a1.1, fun t ht => ?_⟩, ⟨h1.trans a2, hF.trans a2'⟩, a3.co (hB 7 (by omega) (by omega)) (hB 8 (by omega) (by omega)), ?_, ?_, fun t ht => ?_⟩
  · have h32 := a1.1
    obtain ⟨⟨k0, k1, k2⟩, ⟨h2, ⟨b0, b1, b2, b3, b4, b5, b7, b8⟩, ⟨h4, h4'⟩, h5⟩, h6⟩ := a1.2 t ht
    have g : ∀ j, S'.1 (100 + 3 * t) j = S.1 (100 + 3 * t) j := fun j => hG _ j k0 (by omega) (by omega)
    refine ⟨⟨(kk _ k0).1, (kk _ k1).1, (kk _ k2).1⟩, ⟨by rw [hQ t ht, (kk _ k0).2.1]; exact h2, ⟨?_, ?_, ?_, ?_, ?_, ?_, ?_, ?_⟩, ⟨by rw [(kk _ k1).2.2]; exact h4, by rw [(kk _ k2).2.2]; exact h4'⟩, fun k hk => ?_⟩, ?_⟩
    · rw [g, e2]; exact b0
    · rw [g, hB 3 (by omega) (by omega)]; exact b1
    · rw [g, hB 7 (by omega) (by omega)]; exact b2
    · rw [g, (kk _ k1).2.1]; exact b3
    · rw [g, (kk _ k2).2.1]; exact b4
    · rw [g, hB 6 (by omega) (by omega)]; exact b5
    · rw [g, hB 5 (by omega) (by omega)]; exact b7
    · rw [g, hB 4 (by omega) (by omega)]; exact b8
    · obtain ⟨p1, p2⟩ := h5 k hk
      have hp := (a3.2.2 t k ht hk).2.1
      rw [(hA _ k1 (by omega) (by omega)).2, (hA _ k2 (by omega) (by omega)).1, hB 9 (by omega) (by omega), (kk _ (a1.k0 hp)).2.1]
      exact ⟨p1, p2⟩
    · rw [e2]; exact h6
  · unfold ty_rd; rw [hB 5 (by omega) (by omega), e2, hB 4 (by omega) (by omega)]; exact a4
  · unfold ty_sz; rw [e2, hB 4 (by omega) (by omega), hB 5 (by omega) (by omega), hB 9 (by omega) (by omega)]; exact a5
  · have h32 := a1.1
    obtain ⟨b1, b2, b3, b4⟩ := a6 t ht
    rw [hB 4 (by omega) (by omega), hB 6 (by omega) (by omega), e2, hlb, hG _ 6 (a1.k0 ht) (by omega) (by omega)]
    exact ⟨b1, b2, b3, b4⟩
theorem rT.lb (e2 : B' 2 = B 2) : ∀ d t, lb_r B' ct pt d t = lb_r B ct pt d t := by
  intro d
  induction d with
  | zero => intro t; rfl
  | succ d ih => intro t; rw [lb_r, lb_r, e2, show lb_r B' ct pt d = lb_r B ct pt d from funext ih]
theorem rD.tr (h : rD am S F B NT nd dr) (hT : TyR K am N S B NT ct pt) (kk : kpK K am N K' am' N') (h3 : S'.1 0 3 = S.1 0 3) (hQ : S'.2.2.1 2 = S.2.2.1 2) (hB : B' 11 = B 11) (hF : F' 10 = F 10) : rD am' S' F' B' NT nd dr := by
  obtain ⟨⟨a1, a2, a3⟩, a4⟩ := h
  refine ⟨⟨h3.trans a1, hF.trans a2, a3⟩, fun h hh => ?_⟩
  obtain ⟨b1, b2, b3⟩ := a4 h hh
  rw [hQ, hB, (kk _ (hT.k0 b2)).2.1]
  exact ⟨b1, b2, b3⟩
theorem rI.tr (h : rI K am N S F B ni hp) (kk : kpK K am N K' am' N') (h5 : S'.1 0 5 = S.1 0 5) (hG : ∀ i j, i < ni → j < 4 → S'.1 (200 + 20 * i) j = S.1 (200 + 20 * i) j) (hA : ∀ i, i < ni → S'.2.1 (201 + 20 * i) = S.2.1 (201 + 20 * i)) (hQ : ∀ i, i < ni → S'.2.2.1 (202 + 20 * i) = S.2.2.1 (202 + 20 * i) ∧ S'.2.2.1 3 i = S.2.2.1 3 i) (hB : ∀ f, 13 ≤ f → f ≤ 15 → B' f = B f) (hF : F' 12 = F 12) : rI K' am' N' S' F' B' ni hp := by
  obtain ⟨⟨a1, a2, a3⟩, a4, a5, a6, a7, a8⟩ := h
  have e13 := hB 13 (by omega) (by omega)
  have e14 := hB 14 (by omega) (by omega)
  have e15 := hB 15 (by omega) (by omega)
  refine ⟨⟨h5.trans a1, hF.trans a2, a3⟩, fun i hi => ?_, by rw [e14]; exact a5, by unfold mo_b8; rw [e13]; exact a6, by rw [e13]; exact a7, by rw [e15]; exact a8⟩
  obtain ⟨⟨h1, h2, h3, h4, h5, h6, h7, h8⟩, b2, b3, b4, b5⟩ := a4 i hi
  refine ⟨⟨(kk _ h1).1, (kk _ h2).1, (kk _ h3).1, ?_, ?_, by rw [(kk _ h2).2.2]; exact h6, by rw [(kk _ h3).2.2]; exact h7, fun h hh => ?_⟩, ?_, ?_, ?_, fun a ha => ?_⟩
  · rw [hG i 0 hi (by omega), (kk _ h2).2.1]; exact h4
  · rw [hG i 1 hi (by omega), (kk _ h3).2.1]; exact h5
  · obtain ⟨c1, c2⟩ := h8 h hh
    refine ⟨(kk _ c1).1, ?_⟩
    rw [(hQ i hi).1, (kk _ c1).2.1]; exact c2
  · rw [(hQ i hi).2, (kk _ h1).2.1]; exact b2
  · rw [hG i 2 hi (by omega), e14]; exact b3
  · rw [hG i 3 hi (by omega), e15]; exact b4
  · rw [hA i hi, e13]; exact b5 a ha
theorem HA.tr (h : HA am hd S B fr0 (lnB B) ni) (hI : ∀ i, i < ni → in_ok K am N S i) (kk : kpK K am N K' am' N') (hG : ∀ i h j, i < ni → h < 16 → S'.1 (203 + 20 * i + h) j = S.1 (203 + 20 * i + h) j) (hB : ∀ f, 16 ≤ f → f ≤ 23 → B' f = B f) : HA am' hd S' B' fr0 (lnB B') ni := by
  have hA := h.b (B' := B') (fun f hf => hB f (by omega) (by omega))
  intro i h9 hi hh
  obtain ⟨a, b, c⟩ := hA i h9 hi hh
  refine ⟨by rw [hG i h9 3 hi hh]; exact a, by rw [hG i h9 2 hi hh]; exact b, fun z => ?_⟩
  obtain ⟨c1, c2, c3⟩ := c z
  refine ⟨by rw [hG i h9 0 hi hh]; exact c1, by rw [hG i h9 1 hi hh]; exact c2, fun y => ?_⟩
  obtain ⟨i', h', x1, x2, x3, x4, x5⟩ := c3 y
  exact ⟨i', h', x1, x2, x3, by rw [hG i h9 4 hi hh, (kk _ ((hI i' x1).2.2.2.2.2.2.2 h' x2).1).2.1]; exact x4, x5⟩
theorem rH.tr (h : rH am hd S B ni) (hI : ∀ i, i < ni → in_ok K am N S i) (kk : kpK K am N K' am' N') (hG : ∀ i h j, i < ni → h < 16 → S'.1 (203 + 20 * i + h) j = S.1 (203 + 20 * i + h) j) (hB : ∀ f, 16 ≤ f → f ≤ 23 → B' f = B f) : rH am' hd S' B' ni :=
  ⟨h.1.tr hI kk hG hB, fun x hx => by rw [hB 20 (by omega) (by omega), hB 21 (by omega) (by omega)]; exact h.2 x hx⟩
theorem rM.tr (h : rM B ni Md Lv ru) (hB : ∀ f, 16 ≤ f → f ≤ 19 → B' f = B f) (h24 : B' 24 = B 24) : rM B' ni Md Lv ru := by
  unfold rM
  rw [hB 16 (by omega) (by omega), hB 17 (by omega) (by omega), hB 18 (by omega) (by omega), hB 19 (by omega) (by omega), h24]
  exact h
theorem mo_rs_c (e23 : B' 23 = B 23) (e24 : B' 24 = B 24) (k g : Int32) : ∀ n, mo_rs B' k g n = mo_rs B k g n := by
  intro n
  induction n with
  | zero => rfl
  | succ n ih => rw [mo_rs, mo_rs, e23, e24, ih]
theorem rR.tr (h : rR S F B Md) (h12 : S'.1 0 12 = S.1 0 12) (hA : S'.2.1 8 = S.2.1 8 ∧ S'.2.1 9 = S.2.1 9) (e23 : B' 23 = B 23) (e24 : B' 24 = B 24) (hF : F' 22 = F 22) : rR S' F' B' Md := by
  obtain ⟨⟨a1, a2⟩, a3, a4, a5⟩ := h
  refine ⟨⟨hF.trans a1, h12.trans a2⟩, by rw [e23, e24]; exact a3, by rw [e24]; exact a4, fun kd hk => ?_⟩
  rw [hA.1, hA.2, mo_rs_c e23 e24, mo_rs_c e23 e24]
  exact a5 kd hk
theorem rF.tr (h : rF K am S F B NT ni nf ct pt hm ar rs) (hT : TyR K am N S B NT ct pt) (kk : kpK K am N K' am' N') (h7 : S'.1 0 7 = S.1 0 7) (hG : ∀ f j, f < nf → S'.1 (400 + f) j = S.1 (400 + f) j) (hQ : ∀ f, f < nf → S'.2.2.1 4 f = S.2.2.1 4 f) (e2 : B' 2 = B 2) (hB : ∀ f, 26 ≤ f → f ≤ 28 → B' f = B f) (hF : F' 25 = F 25) : rF K' am' S' F' B' NT ni nf ct pt hm ar rs := by
  obtain ⟨⟨a1, a2, a3⟩, a4⟩ := h
  refine ⟨⟨h7.trans a1, hF.trans a2, a3⟩, fun f hf => ?_⟩
  obtain ⟨⟨b1, b2, b3, b4, b5, b6, b7, b8⟩, c1, c2, c3, c4⟩ := a4 f hf
  rw [hB 26 (by omega) (by omega), hB 27 (by omega) (by omega), hB 28 (by omega) (by omega), rT.lb e2]
  refine ⟨⟨(kk _ b1).1, ?_, ?_, ?_, ?_, b6, b7, b8⟩, c1, c2, c3, c4⟩
  · rw [hQ f hf, (kk _ b1).2.1]; exact b2
  · rw [hG f 0 hf]; exact b3
  · rw [hG f 1 hf, (kk _ (hT.k0 b7)).2.1]; exact b4
  · rw [hG f 2 hf, (kk _ (hT.k0 b8)).2.1]; exact b5
theorem rS.tr (h : rS S F B ni nf Lv ru cf) (h11 : S'.1 0 11 = S.1 0 11) (hA : ∀ k, 5 ≤ k → k ≤ 7 → S'.2.1 k = S.2.1 k) (e15 : B' 15 = B 15) (hB : ∀ f, 30 ≤ f → f ≤ 32 → B' f = B f) (hF : F' 29 = F 29) : rS S' F' B' ni nf Lv ru cf := by
  unfold rS
  rw [h11, hF, hA 5 (by omega) (by omega), hA 6 (by omega) (by omega), hA 7 (by omega) (by omega), e15, hB 30 (by omega) (by omega), hB 31 (by omega) (by omega), hB 32 (by omega) (by omega)]
  exact h
theorem rL.tr (h : rL S F) (h0 : S'.1 14 0 = S.1 14 0) (h1 : S'.1 14 1 = S.1 14 1) (h2 : S'.1 0 17 = S.1 0 17) (hF : F' 33 = F 33 ∧ F' 34 = F 34 ∧ F' 35 = F 35) : rL S' F' := by
  unfold rL
  rw [h0, h1, h2, hF.1, hF.2.1, hF.2.2]
  exact h
theorem rW.tr (h : rW K am N S NT ni nf) (h1 : ∀ j, j ≠ 1 → j ≠ 3 → j ≠ 5 → j ≠ 7 → j ≠ 11 → j ≠ 12 → j ≠ 17 → S'.1 0 j = S.1 0 j) (h2 : ∀ j, j ≠ 3 → S'.1 10 j = S.1 10 j) : rW K am N S' NT ni nf := ⟨h.1.of h1 h2, h.2⟩
end RRT
/-- all of it -/
def RR (hd : Nat → Nat) (K : List Nat) (am N : Nat → Nat) (S : gS) (F : Nat → Int32) (B : Nat → Nat → Int32) (NT ni nf nd Lv Md : Nat) (ct dp : Nat → Nat) (pt : Nat → Nat → Nat) (sz al dr hm ar rs ru cf hp : Nat → Nat) : Prop :=
  rW K am N S NT ni nf ∧ rT K am N S F B NT ct dp pt sz al ∧ rD am S F B NT nd dr ∧ rI K am N S F B ni hp ∧ (rH am hd S B ni ∧ rM B ni Md Lv ru) ∧ rR S F B Md ∧ rF K am S F B NT ni nf ct pt hm ar rs ∧ rS S F B ni nf Lv ru cf ∧ rL S F
section RRs
variable {K : List Nat} {am N hd : Nat → Nat} {S : gS} {F F' : Nat → Int32} {B B' : Nat → Nat → Int32} {NT ni nf nd Lv Md : Nat} {ct dp sz al dr hm ar rs ru cf hp : Nat → Nat} {pt : Nat → Nat → Nat}
/-- what the class's world doesn't see -/
theorem RR.fb (h : RR hd K am N S F B NT ni nf nd Lv Md ct dp pt sz al dr hm ar rs ru cf hp) (hF : ∀ f, f = 1 ∨ f = 10 ∨ f = 12 ∨ f = 22 ∨ f = 25 ∨ f = 29 ∨ f = 33 ∨ f = 34 ∨ f = 35 → F' f = F f) (hB : ∀ f, f < 37 → B' f = B f) : RR hd K am N S F' B' NT ni nf nd Lv Md ct dp pt sz al dr hm ar rs ru cf hp := by
  obtain ⟨a1, a2, a3, a4, ⟨a5, a6⟩, a7, a8, a9, a10⟩ := h
  have kk := kpK.rf K am N
  exact ⟨a1, a2.tr kk rfl (fun _ _ _ _ _ => rfl) (fun _ _ _ _ => ⟨rfl, rfl⟩) (fun _ _ => rfl) (fun f _ _ => hB f (by omega)) (hF 1 (by omega)), a3.tr a2.1 kk rfl rfl (hB 11 (by omega)) (hF 10 (by omega)), a4.tr kk rfl (fun _ _ _ _ => rfl) (fun _ _ => rfl) (fun _ _ => ⟨rfl, rfl⟩) (fun f _ _ => hB f (by omega)) (hF 12 (by omega)), ⟨a5.tr (fun i hi => (a4.2.1 i hi).1) kk (fun _ _ _ _ _ => rfl) (fun f _ _ => hB f (by omega)), a6.tr (fun f _ _ => hB f (by omega)) (hB 24 (by omega))⟩, a7.tr rfl ⟨rfl, rfl⟩ (hB 23 (by omega)) (hB 24 (by omega)) (hF 22 (by omega)), a8.tr a2.1 kk rfl (fun _ _ _ => rfl) (fun _ _ => rfl) (hB 2 (by omega)) (fun f _ _ => hB f (by omega)) (hF 25 (by omega)), a9.tr rfl (fun _ _ _ => rfl) (hB 15 (by omega)) (fun f _ _ => hB f (by omega)) (hF 29 (by omega)), a10.tr rfl rfl rfl ⟨hF 33 (by omega), hF 34 (by omega), hF 35 (by omega)⟩⟩
end RRs
