/-! passing a value: what is kept; other addresses, more keys -/
theorem in_ok.ka {K K' : List Nat} {am am' N : Nat → Nat} {S : gS} {i : Nat} (h : in_ok K am N S i) (hK : ∀ k, k ∈ K → k ∈ K') (ha : ∀ k, k ≠ 15 → k ≠ 16 → am' k = am k) : in_ok K' am' N S i := by
  obtain ⟨h1, h2, h3, h4, h5, h6, h7, h8⟩ := h
  refine ⟨hK _ h1, hK _ h2, hK _ h3, by rw [ha _ (by omega) (by omega)]; exact h4, by rw [ha _ (by omega) (by omega)]; exact h5, h6, h7, fun h9 hh => ⟨hK _ (h8 h9 hh).1, by rw [ha _ (by omega) (by omega)]; exact (h8 h9 hh).2⟩⟩
theorem hc_w0.ka {K K' : List Nat} {am am' N : Nat → Nat} {S : gS} (h : hc_w0 K am N S) (hn : va_nd K' = true) (hK : ∀ k, k ∈ K → k ∈ K') (ha : ∀ k, k ≠ 15 → k ≠ 16 → am' k = am k) : hc_w0 K' am' N S := by
  obtain ⟨⟨-, h1⟩, h2, h3⟩ := h
  refine ⟨⟨hn, fun k hk => hK k (h1 k hk)⟩, h2, ?_⟩
  rw [ha 1 (by decide) (by decide), ha 2 (by decide) (by decide), ha 3 (by decide) (by decide), ha 4 (by decide) (by decide), ha 5 (by decide) (by decide), ha 6 (by decide) (by decide), ha 7 (by decide) (by decide), ha 8 (by decide) (by decide), ha 9 (by decide) (by decide), ha 10 (by decide) (by decide), ha 14 (by decide) (by decide), ha 11 (by decide) (by decide), ha 12 (by decide) (by decide), ha 13 (by decide) (by decide)]
  exact h3
theorem TyR.ka {K K' : List Nat} {am am' N : Nat → Nat} {S : gS} {B : Nat → Nat → Int32} {NT : Nat} {ct : Nat → Nat} {pt : Nat → Nat → Nat} (h : TyR K am N S B NT ct pt) (hK : ∀ k, k ∈ K → k ∈ K') (ha : ∀ k, k ≠ 15 → k ≠ 16 → am' k = am k) : TyR K' am' N S B NT ct pt := by
  refine ⟨h.1, fun t ht => ?_⟩
  obtain ⟨⟨k0, k1, k2⟩, ⟨h2, ⟨a0, a1, a2, a3, a4, a5, a7, a8⟩, h4, h5⟩, h6⟩ := h.2 t ht
  refine ⟨⟨hK _ k0, hK _ k1, hK _ k2⟩, ⟨by rw [ha _ (by omega) (by omega)]; exact h2, ⟨a0, a1, a2, by rw [ha _ (by omega) (by omega)]; exact a3, by rw [ha _ (by omega) (by omega)]; exact a4, a5, a7, a8⟩, h4, fun k hk => ⟨by rw [ha _ (by omega) (by omega)]; exact (h5 k hk).1, (h5 k hk).2⟩⟩, h6⟩
theorem HA.am {am am' hd : Nat → Nat} {S : gS} {B : Nat → Nat → Int32} {fr : Nat → Bool} {ln : Nat → Int32} {ni : Nat} (h : HA am hd S B fr ln ni) (ha : ∀ k, k ≠ 15 → k ≠ 16 → am' k = am k) : HA am' hd S B fr ln ni := by
  intro i h9 hi hh
  obtain ⟨a, b, c⟩ := h i h9 hi hh
  refine ⟨a, b, fun z => ?_⟩
  obtain ⟨c1, c2, c3⟩ := c z
  refine ⟨c1, c2, fun y => ?_⟩
  obtain ⟨i', h', x1, x2, x3, x4, x5⟩ := c3 y
  exact ⟨i', h', x1, x2, x3, by rw [ha _ (by omega) (by omega)]; exact x4, x5⟩
/-- what a passing leaves as it was -/
def pkp (J : Nat) (S S' : gS) : Prop := (∀ k j, k ≠ 15 → k ≠ 16 → k ≠ 14 → ¬ (k = 10 ∧ j = 3) → ¬ (k = 200 + 20 * J ∧ j = 2) → ¬ gk k = 4 → S'.1 k j = S.1 k j) ∧ (∀ k, k ≠ 11 → k ≠ 13 → k ≠ 201 + 20 * J → S'.2.1 k = S.2.1 k) ∧ S'.2.2.1 = S.2.2.1 ∧ ∀ k, k ≠ 12 → S'.2.2.2 k = S.2.2.2 k
theorem pkp.rf (J : Nat) (S : gS) : pkp J S S := ⟨fun _ _ _ _ _ _ _ _ => rfl, fun _ _ _ _ => rfl, rfl, fun _ _ => rfl⟩
theorem pkp.tr {J : Nat} {S S' S'' : gS} (a : pkp J S S') (b : pkp J S' S'') : pkp J S S'' := ⟨fun k j h1 h2 h3 h4 h5 h6 => (b.1 k j h1 h2 h3 h4 h5 h6).trans (a.1 k j h1 h2 h3 h4 h5 h6), fun k h1 h2 h3 => (b.2.1 k h1 h2 h3).trans (a.2.1 k h1 h2 h3), b.2.2.1.trans a.2.2.1, fun k h => (b.2.2.2 k h).trans (a.2.2.2 k h)⟩
theorem rkp.pk {J : Nat} {S S' : gS} (a : rkp S S') : pkp J S S' := ⟨fun k j h1 _ h3 h4 _ h6 => a.1 k j (fun z => h1 z.1) h4 h3 (fun z => h6 z.1), fun k h1 h2 _ => a.2.1 k h1 h2, a.2.2.1, a.2.2.2⟩
theorem wkp.pk {J : Nat} {S S' : gS} (a : wkp J S S') : pkp J S S' := ⟨fun k j _ h2 h3 _ h5 h6 => a.1 k j (fun z => h2 z.1) h3 h5 h6, fun k _ _ h3 => a.2.1 k h3, by rw [a.2.2], fun k _ => by rw [a.2.2]⟩
theorem hkp.pk {J : Nat} {S S' : gS} (a : hkp S S') : pkp J S S' := ⟨fun k j _ _ _ _ _ h6 => a.1 k j (fun z => h6 z.1), fun k _ _ _ => by rw [a.2], by rw [a.2], fun k _ => by rw [a.2]⟩
theorem pkp.g {J : Nat} {S S' : gS} {k j : Nat} {v : Value} (a : pkp J S S') (h : k = 15 ∨ k = 16 ∨ (k = 10 ∧ j = 3)) : pkp J S (gsG S' k j v) := ⟨fun k' j' h1 h2 h3 h4 h5 h6 => by
  rw [gsG_nj]
  · exact a.1 k' j' h1 h2 h3 h4 h5 h6
  · by_cases e : k' = k
    · subst e
      refine Or.inr (fun z => ?_)
      subst z
      rcases h with h | h | h
      · exact h1 h
      · exact h2 h
      · exact h4 h
    · exact Or.inl e, a.2.1, a.2.2.1, a.2.2.2⟩
theorem pkp.o {J : Nat} {S S' : gS} {k : Nat} {f : Nat → Value} (a : pkp J S S') (h : k = 15 ∨ k = 16) : pkp J S (gsO S' k f) := ⟨fun k' j' h1 h2 h3 h4 h5 h6 => by
  show va_up S'.1 k f k' j' = _
  rw [va_up_ne _ _ (by omega)]
  exact a.1 k' j' h1 h2 h3 h4 h5 h6, a.2.1, a.2.2.1, a.2.2.2⟩
theorem in_ok.pk {K : List Nat} {am N : Nat → Nat} {S S' : gS} {i J : Nat} (h : in_ok K am N S i) (hi : i < 6) (a : pkp J S S') : in_ok K am N S' i := by
  obtain ⟨h1, h2, h3, h4, h5, h6, h7, h8⟩ := h
  have g5 : ¬ gk (200 + 20 * i) = 4 := by rw [(gk_in i hi).1]; decide
  refine ⟨h1, h2, h3, ?_, ?_, h6, h7, ?_⟩
  · rw [a.1 _ 0 (by omega) (by omega) (by omega) (by omega) (by omega) g5]; exact h4
  · rw [a.1 _ 1 (by omega) (by omega) (by omega) (by omega) (by omega) g5]; exact h5
  · rw [a.2.2.1]; exact h8
theorem hc_w0.pk {K : List Nat} {am N : Nat → Nat} {S S' : gS} {J : Nat} (h : hc_w0 K am N S) (a : pkp J S S') : hc_w0 K am N S' := by
  obtain ⟨h1, h2, h3⟩ := h
  have g0 : ∀ j, S'.1 0 j = S.1 0 j := fun j => a.1 0 j (by decide) (by decide) (by decide) (by omega) (by omega) (by decide)
  have g10 : ∀ j, j ≠ 3 → S'.1 10 j = S.1 10 j := fun j hj => a.1 10 j (by decide) (by decide) (by decide) (by omega) (by omega) (by decide)
  refine ⟨h1, h2, ?_⟩
  rw [g0, g0, g0, g0, g0, g0, g0, g0, g0, g0, g0, g10 0 (by decide), g10 1 (by decide), g10 2 (by decide)]
  exact h3
theorem TyR.pk {K : List Nat} {am N : Nat → Nat} {S S' : gS} {B : Nat → Nat → Int32} {NT J : Nat} {ct : Nat → Nat} {pt : Nat → Nat → Nat} (h : TyR K am N S B NT ct pt) (a : pkp J S S') : TyR K am N S' B NT ct pt := by
  have g : ∀ n, n < 100 → ¬ gk (100 + n) = 4 := by decide +kernel
  refine h.tr (fun k j h1 h2 => a.1 k j (by omega) (by omega) (by omega) (by omega) (by omega) (fun z => ?_)) (fun k j h1 h2 => by rw [a.2.1 k (by omega) (by omega) (by omega)]) a.2.2.1 (fun _ _ _ => rfl)
  exact g (k - 100) (by omega) (by rw [show 100 + (k - 100) = k by omega]; exact z)
theorem gw_callVN {l : Launch} {D : va_G} {tl : List (ClassId × FieldType)} {Z : (Nat → Prop) → State → Heap → Prop} {K : List Nat} {am : Nat → Nat} {ks : Nat → ClassId} {N : Nat → Nat} {S : gS} {μ μ' : ev_M} {E : ev_T} {cells slots mc ms : Nat} {lv : List (Option Value)} {st : List Value} {Q' : Option Value → va_W → Prop} {idx c : Nat} {host : String} {T : u_T} {n : Nat} (pc k0 : Nat) (As rest : List Value) (d : decode μ.2.1 pc = .ok (.invokevirtual idx, 3)) (hZ : ev_Zok Z) (hk : ev_kN (hc_π l D ks tl Z) μ μ' idx As.length host [.instanceMethod μ'.1, .selects μ'.1.cls μ'.1 μ'.1]) (hR : ev_kR μ μ' mc ms cells slots) (hkK : k0 ∈ K) (hg : gk k0 = c) (hc : cl_A[c]? = some (μ'.1.cls, T, n)) (hM : MT (hc_π l D ks tl Z) μ' mc ms (.ref (am k0) :: As) (gw K am ks N S) Q')
    (kk : ∀ (r : Option Value) (w : va_W), Q' r w → EV (hc_π l D ks tl Z) μ E (cells + mc) (slots + ms) (pc + 3) lv (r.toList ++ rest) w) (hst : st = As.reverse ++ .ref (am k0) :: rest := by rfl) (hrm : (rest.map fun v => v.category).sum ≤ 8 := by exact Nat.le_of_ble_eq_true rfl) (hc20 : c < 20 := by decide) : EV (hc_π l D ks tl Z) μ E cells slots pc lv st (gw K am ks N S) :=
  ev_callVN (fs := (List.range (gnf c)).map (S.1 k0)) pc (K.idxOf k0) As rest d hZ hk hR (by rw [gw_at hkK, gce_o hg hc20]; rfl) hc hM kk hst hrm
theorem rd_e1 {T4 : Nat → Int32} {ct : Nat → Nat} {i d tt uu : Nat} {p : Int32} {B : Nat → Nat → Int32} (ht : tt < 32) (hu : uu < 32) : rd_e T4 ct i d (nI tt, nI uu, 1, p, -1, 0) 0 B = rd_i T4 ct i d tt uu p (-1) 0 0 B := by
  unfold rd_e
  dsimp only
  rw [nI_clamp (show tt < 2 ^ 31 by omega), nI_clamp (show uu < 2 ^ 31 by omega), show (1 : Int32).toNatClampNeg = 1 from rfl]
  exact rd_m_1
/-- all calls ended -/
def EAQ (hd : Nat → Nat) (S S2 : gS) (P ni Lv : Nat) (s b30 : Nat → Int32) (ho : Nat → Nat → Nat) : Prop := ekp S S2 ∧ S2.1 0 17 = .int (nI P) ∧ S2.1 0 11 = .int 0 ∧ ∀ i, i < ni → S2.1 (200 + 20 * i) 2 = .int 128 ∧ S2.1 (200 + 20 * i) 3 = .int (upd (mo_t3 s b30 Lv) P 2 i) ∧ ∀ h, h < 16 → S2.1 (203 + 20 * i + h) 3 = .ref (hd (h_un (ho i h))) ∧ S2.1 (203 + 20 * i + h) 2 = .int 0
/-- what holds ahead of a passing, from i to J -/
def PH (K : List Nat) (am N hd : Nat → Nat) (S : gS) (B : Nat → Nat → Int32) (i J NT ni Lv hp : Nat) (ct dp : Nat → Nat) (pt : Nat → Nat → Nat) (sz al ru : Nat → Nat) (R : Nat → Nat → Prop) : Prop :=
  (hc_w0 K am N S ∧ 15 ∉ K ∧ 16 ∉ K) ∧ (0 < Lv ∧ Lv ≤ 6 ∧ S.1 0 11 = .int (nI Lv) ∧ (∀ k, k < Lv → S.2.1 5 k = nI (ru k) ∧ ru k < ni ∧ B 30 k = nI (ru k)) ∧ ru (Lv - 1) = i) ∧ (S.1 0 5 = .int (nI ni) ∧ ∀ j, j < ni → in_ok K am N S j ∧ S.2.2.1 3 j = some (am (200 + 20 * j)) ∧ S.1 (200 + 20 * j) 3 = .int (B 15 j)) ∧ (∀ j, j < ni → me_R S B j) ∧ (S.1 (200 + 20 * J) 2 = .int (nI hp) ∧ B 14 J = nI hp ∧ hp ≤ 256) ∧ TyR K am N S B NT ct pt ∧ RC B i NT ni ct dp pt sz R ∧ ty_sz B NT ct pt sz al ∧ (∀ t, t < NT → al t = 1 ∨ al t = 2 ∨ al t = 4 ∨ al t = 8) ∧ HA am hd S B fr0 (lnB B) ni ∧ (∀ x, x < 102 → B 20 x = 0 ∧ B 21 x = 0) ∧ (J < ni ∧ i ≠ J) ∧ ∀ x, 17 * J < x → x ≤ 17 * J + 16 → B 16 x = 0 → lnB B x = 0
def PVw (F : Nat → Nat → Int32) (i J pl s : Nat) (q : Nat × (Nat → Nat → Int32)) : (Nat → Int32) × (Nat → Nat → Int32) := wl i J q.1 0 (F q.1) (pw_B q.2 J pl s)
/-- why a passing failed -/
def PVf (F : Nat → Nat → Int32) (B : Nat → Nat → Int32) (i J pl s : Nat) (x : rd_R) (c p : Int32) (B1 : Nat → Nat → Int32) (fr : Nat → Bool) : Prop := (x = .inl (c, p) ∧ mo_sc B B1 ∧ fr = fr0) ∨ ∃ q, x = .inr q ∧ ((256 < pl + s ∧ c = 11 ∧ p = nI pl ∧ B1 = q.2 ∧ fr = fr0) ∨ (pl + s ≤ 256 ∧ ¬ (PVw F i J pl s q).1 54 = 0 ∧ c = (PVw F i J pl s q).1 54 ∧ p = (PVw F i J pl s q).1 55 ∧ B1 = (PVw F i J pl s q).2 ∧ fr = frB q.2 B1))
def PVn (K : List Nat) (am N hd : Nat → Nat) (ks : Nat → ClassId) (S : gS) (F : Nat → Nat → Int32) (B : Nat → Nat → Int32) (i J ni Lv pl s : Nat) (x : rd_R) (S9 : gS) : Prop := ∃ S1 B1 fr ln c p z, pkp J S S1 ∧ EAQ hd S1 S9 z ni Lv (B 15) (B 30) (fun a h => hof B1 fr (17 * a + h + 1)) ∧ S1.1 14 0 = .int c ∧ S1.1 14 1 = .int p ∧ (∀ j, j < ni → me_R S1 B1 j) ∧ HA am hd S1 B1 fr ln ni ∧ (c = 11 ∨ c = 12 → z = J) ∧ (¬ (c = 11 ∨ c = 12) → z = i) ∧ PVf F B i J pl s x c p B1 fr
def PVo (am hd : Nat → Nat) (S : gS) (F : Nat → Nat → Int32) (i J ni pl s : Nat) (x : rd_R) (S9 : gS) : Prop := ∃ q S1, x = .inr q ∧ pl + s ≤ 256 ∧ (PVw F i J pl s q).1 54 = 0 ∧ pkp J S S1 ∧ S1.1 14 = S.1 14 ∧ WM am hd S1 q.2 (PVw F i J pl s q).2 i J ni ∧ S9 = hh_ch (hh_ch S1 hd (fun h => hof (PVw F i J pl s q).2 (frB q.2 (PVw F i J pl s q).2) (17 * i + h + 1)) i 3 0 16) hd (fun h => hof (PVw F i J pl s q).2 (frB q.2 (PVw F i J pl s q).2) (17 * J + h + 1)) J 4 1 16
def PVQ (K : List Nat) (am N hd : Nat → Nat) (ks : Nat → ClassId) (S : gS) (F : Nat → Nat → Int32) (B : Nat → Nat → Int32) (i J ni Lv pl s : Nat) (x : rd_R) (r : Option Value) (w : va_W) : Prop := ∃ S9, w = gw K am ks N S9 ∧ ((r = some (.int (-1)) ∧ PVn K am N hd ks S F B i J ni Lv pl s x S9) ∨ (r = some (.int (nI pl)) ∧ PVo am hd S F i J ni pl s x S9))
theorem WM.am {am am' hd : Nat → Nat} {S : gS} {Bs B : Nat → Nat → Int32} {i J ni : Nat} (h : WM am hd S Bs B i J ni) (ha : ∀ k, k ≠ 15 → k ≠ 16 → am' k = am k) : WM am' hd S Bs B i J ni := ⟨h.1, h.2.1, h.2.2.1.am ha, h.2.2.2⟩
