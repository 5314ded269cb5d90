/-! writing a handle; what writing keeps of the items before -/
theorem wh_f {F : Nat → Int32} {B : Nat → Nat → Int32} {J it fh : Nat} (hf : mo_fh (B 16) (17 * J) 16 = fh) (h0 : ¬ fh = 0) : (mo_wh F B J it).1 = upd F 52 (F 52 + 1) ∧ (mo_wh F B J it).2 16 = upd (B 16) (17 * J + fh) 1 ∧ (mo_wh F B J it).2 18 = upd (B 18) (17 * J + fh) (if B 2 (B 44 it).toNatClampNeg = 11 then 1 else 0) ∧ (mo_wh F B J it).2 17 = upd (B 17) (17 * J + fh) (B 17 (B 48 it).toNatClampNeg) ∧ (mo_wh F B J it).2 19 = upd (B 19) (17 * J + fh) (B 48 it) ∧ (mo_wh F B J it).2 13 = mo_pb (B 13) (256 * J + (B 50 it).toNatClampNeg) (nI fh) 1 ∧ ∀ f, f ≠ 13 → f ≠ 16 → f ≠ 17 → f ≠ 18 → f ≠ 19 → f ≠ 53 → (mo_wh F B J it).2 f = B f := by
  subst hf
  rw [mo_wh, if_neg h0]
  dsimp only
  refine ⟨rfl, ?_, ?_, ?_, ?_, va_up_self _ _ _, fun f h1 h2 h3 h4 h5 h6 => ?_⟩
  · rw [va_up_ne _ _ (by decide), va_up_ne _ _ (by decide), va_up_ne _ _ (by decide), va_up_ne _ _ (by decide), va_up_ne _ _ (by decide), va_up_self]
  · rw [va_up_ne _ _ (by decide), va_up_ne _ _ (by decide), va_up_ne _ _ (by decide), va_up_ne _ _ (by decide), va_up_self]
  · rw [va_up_ne _ _ (by decide), va_up_ne _ _ (by decide), va_up_ne _ _ (by decide), va_up_self]
  · rw [va_up_ne _ _ (by decide), va_up_ne _ _ (by decide), va_up_self]
  · rw [va_up_ne _ _ h1, va_up_ne _ _ h6, va_up_ne _ _ h5, va_up_ne _ _ h3, va_up_ne _ _ h4, va_up_ne _ _ h2]
theorem wh_0 {F : Nat → Int32} {B : Nat → Nat → Int32} {J it : Nat} (h0 : mo_fh (B 16) (17 * J) 16 = 0) : mo_wh F B J it = (mo_fl F 12 (B 45 it), B) := by rw [mo_wh, if_pos h0]
theorem WM.ha {am hd : Nat → Nat} {S : gS} {Bs B B' : Nat → Nat → Int32} {i J ni to fh b : Nat} {ow : Int32} {e : Nat} {v : Value} (h : WM am hd S Bs B i J ni) (hn : ni ≤ 6) (hJ6 : J < 6) (hJ : J < ni) (hin : i < ni) (hiJ : i ≠ J) (hto : to + 1 ≤ 256) (f1 : 1 ≤ fh) (f2 : fh ≤ 16) (f3 : B 16 (17 * J + fh) = 0) (hb1 : 1 ≤ b) (hb2 : b ≤ 16) (hln : lnB Bs (17 * J + fh) = 0)
    (hev : (ow = 1 ∧ e = hd 4) ∨ (ow = 0 ∧ e = hd 2 ∧ v = .ref (am (202 + 20 * i + b))))
    (e16 : B' 16 = upd (B 16) (17 * J + fh) 1) (e17 : B' 17 = upd (B 17) (17 * J + fh) (B 17 (17 * i + b))) (e18 : B' 18 = upd (B 18) (17 * J + fh) ow) (e19 : B' 19 = upd (B 19) (17 * J + fh) (nI (17 * i + b))) (e13 : B' 13 = mo_pb (B 13) (256 * J + to) (nI fh) 1) (ef : ∀ f, f = 14 ∨ f = 20 ∨ f = 23 → B' f = B f) :
    WM am hd (hb_sb (wus S (202 + 20 * J + fh) (B 17 (17 * i + b)) (B 23 (B 17 (17 * i + b)).toNatClampNeg) e v) (201 + 20 * J) to (lN fh) 1) Bs B' i J ni := by
  obtain ⟨h1, h2, h3, h4, h5, h6, h7⟩ := h
  obtain ⟨S1, hS1⟩ : ∃ S1, S1 = wus S (202 + 20 * J + fh) (B 17 (17 * i + b)) (B 23 (B 17 (17 * i + b)).toNatClampNeg) e v := ⟨_, rfl⟩
  have hkey : 203 + 20 * J + (fh - 1) = 202 + 20 * J + fh := by omega
  have hy : 17 * J + (fh - 1) + 1 = 17 * J + fh := by omega
  have hfs : Bs 16 (17 * J + fh) = 0 := Decidable.byContradiction (fun z => h5 _ z f3)
  have hne : ∀ k j, k ≠ 202 + 20 * J + fh → S1.1 k j = S.1 k j := fun k j hk => by
    rw [hS1, wus, gsG_nj (Or.inl hk), gsG_nj (Or.inl hk), gsG_nj (Or.inl hk), gsG_nj (Or.inl hk), gsG_nj (Or.inl hk)]
  have hA : HA am hd S1 B' (frB Bs B') (lnB Bs) ni := by
    refine h3.nw (J := J) (h := fh - 1) (ow := ow) (res := B 17 (17 * i + b)) (frm := nI (17 * i + b)) hJ (by omega) (by rw [hy]; exact hfs) (by rw [hy]; have := h7 (fh - 1) (by omega); rw [hy] at this; exact this) (by rw [hy]; exact hln) (by rw [hy]; exact e16) (by rw [hy]; exact e17) (by rw [hy]; exact e18) (by rw [hy]; exact e19) (ef 20 (by omega)) (ef 23 (by omega)) (by rw [hkey]; exact hne) ?_ ?_ ?_ ?_ ?_
    · rw [hkey, hS1, wus, gsG_nj (Or.inr (by decide)), gsG_nj (Or.inr (by decide)), gsG_nj (Or.inr (by decide)), gsG_nj (Or.inr (by decide))]; exact gsG_eq _ _ _ _
    · rw [hkey, hS1, wus, gsG_nj (Or.inr (by decide)), gsG_nj (Or.inr (by decide)), gsG_nj (Or.inr (by decide))]; exact gsG_eq _ _ _ _
    · rw [hkey, hS1, wus]; exact gsG_eq _ _ _ _
    · rw [hkey, hS1, wus, gsG_nj (Or.inr (by decide)), gsG_nj (Or.inr (by decide)), gsG_eq]
      rcases hev with ⟨z1, z2⟩ | ⟨z1, z2, -⟩
      · rw [z1, z2]; rfl
      · rw [z1, z2]; rfl
    · intro z
      rcases hev with ⟨z1, -⟩ | ⟨-, -, z3⟩
      · rw [z1] at z; exact absurd z (by decide)
      · refine ⟨i, b - 1, hin, by omega, by rw [show 17 * i + (b - 1) + 1 = 17 * i + b by omega], ?_⟩
        rw [hkey, hS1, wus, gsG_nj (Or.inr (by decide)), gsG_eq, z3, show 203 + 20 * i + (b - 1) = 202 + 20 * i + b by omega]
  have hk : wkp J S S1 := by
    rw [hS1]
    exact wus_k (wkp.rf J S) (by rw [← hkey]; exact (gk_in J hJ6).2.2.2 (fh - 1) (by omega))
  have hm1 : S1.2 = S.2 := by rw [hS1]; rfl
  rw [← hS1]
  have pbv : ∀ y, mo_pb (B 13) (256 * J + to) (nI fh) 1 y = if 256 * J + to ≤ y ∧ y < 256 * J + to + 1 then nI fh else B 13 y := fun y => by
    rw [pb_at]
    by_cases c : 256 * J + to ≤ y ∧ y < 256 * J + to + 1
    · rw [if_pos c, if_pos c, show y - (256 * J + to) = 0 by omega, pb_v (by omega) (by decide)]
      congr 1
      omega
    · rw [if_neg c, if_neg c]
  refine ⟨me_all h1 (fun q hq => by rw [hsb_ne S1 _ to _ hq 1, hm1]) (fun y hyy => by rw [e13, pbv, if_neg (by omega)]) (fun x hx => ?_), ?_, hA.s hn (fun q j _ => by rw [(hsb_1 _ _ _ _ _).1]), fun a ha => ?_, fun x hx => ?_, fun x hx => ?_, ?_⟩
  · rw [hsb_at, e13, pbv]
    by_cases c : to ≤ x ∧ x < to + 1
    · rw [if_pos c, if_pos (by omega), show x - to = 0 by omega, by_byte (by decide) (by omega)]
      congr 1
      omega
    · rw [if_neg c, if_neg (by omega), hm1]
      exact h1 J hJ x hx
  · rw [(hsb_1 _ _ _ _ _).1, hne _ _ (by omega), ef 14 (by omega)]; exact h2
  · rw [e13, pbv, if_neg (by omega)]; exact h4 a ha
  · rw [e16]
    by_cases z : x = 17 * J + fh
    · rw [z, upd_eq]; decide
    · rw [upd_ne z]; exact h5 x hx
  · rw [e16, upd_ne (by omega)]; exact h6 x hx
  · rw [ef 20 (by omega)]; exact h7
theorem wi_50 {F : Nat → Int32} {B : Nat → Nat → Int32} {ii J it uu to a : Nat} (h : a ≠ it) : (wi_1 F B ii J it uu to).2 50 a = B 50 a ∧ (wi_1 F B ii J it uu to).2 51 a = B 51 a := by
  have t0 : ∀ g, wi_t B it to g a = B g a := fun g => by
    unfold wi_t
    by_cases e : g = 50
    · subst e; rw [va_up_self, upd_ne h]
    · rw [va_up_ne _ _ e]
  have L : ∀ (hp k al mn fr : Nat) (tx : Prop) (dx : Decidable tx), (wi_l F B ii J it to hp k al mn fr tx).2 50 a = B 50 a ∧ (wi_l F B ii J it to hp k al mn fr tx).2 51 a = B 51 a := by
    intro hp k al mn fr tx dx
    by_cases c : 256 < mo_ut hp al + k
    · rw [wl_no c]
      dsimp only
      exact ⟨by rw [va_up_ne _ _ (by decide)]; exact t0 50, by rw [va_up_self, upd_ne h]⟩
    · obtain ⟨-, -, -, w50, w51, -⟩ := wl_ok (F := F) (B := B) (ii := ii) (J := J) (it := it) (to := to) (hp := hp) (k := k) (al := al) (mn := mn) (fr := fr) (tx := tx) (dx := dx) (by omega)
      rw [w50, w51, upd_ne h, upd_ne h]
      exact ⟨rfl, rfl⟩
  unfold wi_1
  split
  · exact L _ _ _ _ _ _ _
  split
  · exact L _ _ _ _ _ _ _
  split
  · by_cases c : mo_fh (wi_t B it to 16) (17 * J) 16 = 0
    · rw [wh_0 c]; exact ⟨t0 50, t0 51⟩
    · obtain ⟨-, -, -, -, -, -, wf⟩ := wh_f (F := F) (B := wi_t B it to) (J := J) (it := it) rfl c
      rw [wf 50 (by decide) (by decide) (by decide) (by decide) (by decide) (by decide), wf 51 (by decide) (by decide) (by decide) (by decide) (by decide) (by decide)]
      exact ⟨t0 50, t0 51⟩
  split
  · exact ⟨t0 50, t0 51⟩
  · dsimp only
    rw [va_up_ne _ _ (by decide), va_up_ne _ _ (by decide)]
    exact ⟨t0 50, t0 51⟩
theorem wl_50 {ii J : Nat} : ∀ (m k : Nat) (F : Nat → Int32) (B : Nat → Nat → Int32) (a : Nat), a < k → (wl ii J m k F B).2 50 a = B 50 a ∧ (wl ii J m k F B).2 51 a = B 51 a := by
  intro m
  induction m with
  | zero => intro k F B a _; exact ⟨rfl, rfl⟩
  | succ m ih =>
    intro k F B a ha
    rw [wl]
    split
    · obtain ⟨x1, x2⟩ := ih (k + 1) (wi_1 F B ii J k (B 44 k).toNatClampNeg (wi_to B k).toNatClampNeg).1 (wi_1 F B ii J k (B 44 k).toNatClampNeg (wi_to B k).toNatClampNeg).2 a (by omega)
      obtain ⟨y1, y2⟩ := wi_50 (F := F) (B := B) (ii := ii) (J := J) (it := k) (uu := (B 44 k).toNatClampNeg) (to := (wi_to B k).toNatClampNeg) (a := a) (by omega)
      exact ⟨x1.trans y1, x2.trans y2⟩
    · exact ⟨rfl, rfl⟩
/-- one item more is written -/
theorem WS.st {K : List Nat} {am N hd : Nat → Nat} {S S' : gS} {Bs : Nat → Nat → Int32} {F F' : Nat → Int32} {B B' : Nat → Nat → Int32} {i J NT ni n : Nat} {ct : Nat → Nat} {pt : Nat → Nat → Nat} {sz : Nat → Nat} {k k' : Nat} (h : WS K am N hd S Bs F B i J NT ni n ct pt sz k) (a : wkp J S S') (e : S'.1 16 4 = .int (nI k')) (hv : wr_iv Bs NT sz J F' B' k') (h0 : F' 54 = 0) (hm : WM am hd S' Bs B' i J ni) : WS K am N hd S' Bs F' B' i J NT ni n ct pt sz k' :=
  ⟨h.1.wk a, h.2.1.wk a, h.2.2.1.wk a, e, hv, h0, hm⟩
theorem wi_to_c {Bs B : Nat → Nat → Int32} {a k u : Nat} (sm : wr_sm Bs B) (h46 : Bs 46 a = nI k) (hk : k < 200) (h44 : Bs 44 k = nI u) (hu : u < 32) : wi_to B a = (if Bs 2 u = 8 then B 51 k else B 50 k) + Bs 47 a := by
  have g : ∀ f, f = 2 ∨ f = 44 ∨ f = 46 ∨ f = 47 → B f = Bs f := fun f hf => sm f (by omega) (by omega) (by omega) (by omega) (by omega) (by omega) (by omega) (by omega) (by omega)
  rw [wi_to, g 46 (by omega), h46, if_neg (nI_pos (by omega)), nI_clamp (by omega), g 44 (by omega), h44, nI_clamp (by omega), g 2 (by omega), g 47 (by omega)]
theorem wl_sp {ii J a m k k' : Nat} {F F1 : Nat → Int32} {B B1 : Nat → Nat → Int32} (h : wl ii J (a - k) k F B = (F1, B1)) (h1 : k ≤ a) (h2 : a ≤ m) : wl ii J (m - k) k F B = ((wl ii J (m - a) a F1 B1).1, (wl ii J (m - a) a F1 B1).2) := by
  rw [show m - k = (a - k) + (m - a) by omega, wl_ad, h, show k + (a - k) = a by omega]
/-- the item itself, then what is behind it -/
theorem wl_hd {ii J k k' u to : Nat} {F : Nat → Int32} {B : Nat → Nat → Int32} (h0 : F 54 = 0) (hk : k < k') (h44 : B 44 k = nI u) (hu : u < 32) (hto : wi_to B k = nI to) (ht : to ≤ 256) : wl ii J (k' - k) k F B = wl ii J (k' - (k + 1)) (k + 1) (wi_1 F B ii J k u to).1 (wi_1 F B ii J k u to).2 := by
  rw [show k' - k = 1 + (k' - (k + 1)) by omega, wl_ad, wl_1 h0, h44, hto, nI_clamp (by omega), nI_clamp (by omega)]
