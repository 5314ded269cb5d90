/-! the law's cases: what is common -/
theorem lg_self (x : Int64) : lg_cmp x x = 0 := by
  unfold lg_cmp
  rw [if_neg (show ¬ x > x from Int64.lt_irrefl), if_pos rfl]
theorem RX.k0 {hd : Nat → Nat} {n : Nat} {K : List Nat} {am N : Nat → Nat} {S : gS} {F : Nat → Int32} {B : Nat → Nat → Int32} (H : RX hd n K am N S F B) : 0 ∈ K := by
  obtain ⟨NT, ni, nf, nd, Lv, Md, ct, dp, pt, sz, al, dr, hm, ar, rs, ru, cf, hp, hM, h⟩ := H
  exact h.1.1.1.2 0 (by decide)
theorem lw_join {hd : Nat → Nat} {ks : Nat → ClassId} {n : Nat} {K : List Nat} {am N : Nat → Nat} {S : gS} {cd : String → Int32 → Prop} {P : Int32 → (Nat → Int32) → (Nat → Nat → Int32) → Prop} {Q : Option Value → va_W → Prop} {X : String → va_W → Prop} {oq : Nat} {o : Nat → Int64} {r : Option Value} {w : va_W} (f : Int32 → Int64) (hcd : ∀ E c c', cd E c → cd E c' → c = c' ∧ ¬ c = 0) (hJ : JI hd ks n K am N S cd P Q X)
    (hw : (∃ y w1, Q (some (.int y)) w1 ∧ r = some (.int 0) ∧ w = w1 ++ [lw_o ks oq (vp_updL o 0 (f y))]) ∨ ∃ E c w1, X E w1 ∧ cd E c ∧ r = some (.int c) ∧ w = w1 ++ [lw_o ks oq o]) : ∃ kc w1 o', r = some (.int kc) ∧ w = w1 ++ [lw_o ks oq o'] ∧ ∀ x F1 B1, P x F1 B1 → F1 0 = kc ∧ (kc = 0 → o' 0 = f x) ∧ JW hd ks n am w1 F1 B1 := by
  rcases hw with ⟨y, w1, hq, rfl, rfl⟩ | ⟨E, c, w1, hx, hc, rfl, rfl⟩
  · obtain ⟨y', e, hP⟩ := hJ.1 _ _ hq
    cases e
    refine ⟨0, w1, _, rfl, rfl, fun x F1 B1 hp => ?_⟩
    obtain ⟨g1, g2, g3⟩ := hP x F1 B1 hp
    refine ⟨g1, fun _ => ?_, g3⟩
    rw [g2]; exact if_pos rfl
  · obtain ⟨c', h1, h2⟩ := hJ.2 _ _ hx
    obtain ⟨e, c0⟩ := hcd E c c' hc h1
    refine ⟨c, w1, o, rfl, rfl, fun x F1 B1 hp => ?_⟩
    obtain ⟨g1, g3⟩ := h2 x F1 B1 hp
    exact ⟨g1.trans e.symm, fun z => absurd z c0, g3⟩
theorem lw_joinV {hd : Nat → Nat} {ks : Nat → ClassId} {n : Nat} {K : List Nat} {am N : Nat → Nat} {S : gS} {cd : String → Int32 → Prop} {P : (Nat → Int32) → (Nat → Nat → Int32) → Prop} {Q : Option Value → va_W → Prop} {X : String → va_W → Prop} {r : Option Value} {w : va_W} (hcd : ∀ E c c', cd E c → cd E c' → c = c' ∧ ¬ c = 0) (hJ : JV hd ks n K am N S cd P Q X)
    (hw : (Q none w ∧ r = some (.int 0)) ∨ ∃ E c, X E w ∧ cd E c ∧ r = some (.int c)) : ∃ kc, r = some (.int kc) ∧ ∀ F1 B1, P F1 B1 → F1 0 = kc ∧ JW hd ks n am w F1 B1 := by
  rcases hw with ⟨hq, rfl⟩ | ⟨E, c, hx, hc, rfl⟩
  · exact ⟨0, rfl, (hJ.1 _ _ hq).2⟩
  · obtain ⟨c', h1, h2⟩ := hJ.2 _ _ hx
    obtain ⟨e, c0⟩ := hcd E c c' hc h1
    exact ⟨c, rfl, fun F1 B1 hp => by rw [e]; exact h2 0 F1 B1 hp⟩
def lw_H (l : Launch) (Z : (Nat → Prop) → State → Heap → Prop) (hd : Nat → Nat) (ta tz b L : Nat) (xs : Nat → Int32) : Prop := l.stackTraces = false ∧ hc_ZX Z ∧ ev_Zok Z ∧ hc_ZN Z ∧ hc_AO Z ∧ hc_ST Z ta tz ∧ ho_Z Z hd ∧ ho_D hd ∧ lw_ZN Z ∧ ev_ZS Z b L xs
abbrev lw_lv (b x m oq i : Nat) : List (Option Value) := [some (.ref b), some (.ref x), some (.ref m), some (.ref oq), some (.int (nI i)), none, none]
abbrev lw_Wd (K : List Nat) (am : Nat → Nat) (ks : Nat → ClassId) (N : Nat → Nat) (S : gS) (oq : Nat) (o : Nat → Int64) (bm : Nat → Nat) (F : Nat → Int32) (B : Nat → Nat → Int32) : va_W := (gw K am ks N S ++ [lw_o ks oq o]) ++ mo_W mo_ci bm (ks 0) (ks 1) F B
def lw_K (l : Launch) (D : va_G) (tl : List (ClassId × FieldType)) (Z : (Nat → Prop) → State → Heap → Prop) (ks : Nat → ClassId) (hd : Nat → Nat) (E : ev_T) (b x : Nat) (bm : Nat → Nat) (oq i cells slots n : Nat) : Prop := ∀ (K' : List Nat) (am' N' : Nat → Nat) (S' : gS) (o' : Nat → Int64) (F' : Nat → Int32) (B' : Nat → Nat → Int32), am' 0 = x → RX hd (n + 1) K' am' N' S' F' B' → EV (hc_π l D ks tl Z) lw_M E cells slots 1450 (lw_lv b x (bm 60) oq i) [] (lw_Wd K' am' ks N' S' oq o' bm F' B')
theorem mo_at0 {am : Nat → Nat} {kI kZ : ClassId} {F : Nat → Int32} {B : Nat → Nat → Int32} : (mo_W mo_ci am kI kZ F B)[0]? = some (am 60, .inr (mo_ci, mo_fs am F)) := rfl
/-- the end of a case -/
theorem lw_end {l : Launch} {D : va_G} {tl : List (ClassId × FieldType)} {Z : (Nat → Prop) → State → Heap → Prop} {ks : Nat → ClassId} {hd : Nat → Nat} {E : ev_T} {b : Nat} {am bm : Nat → Nat} {oq i cells slots c' s' n : Nat} {w1 : va_W} {F1 : Nat → Int32} {B1 : Nat → Nat → Int32} {o' : Nat → Int64} {v5 v6 : Option Value} (kk : lw_K l D tl Z ks hd E b (am 0) bm oq i c' s' n) (hc : cells ≤ c') (hs : slots ≤ s') (hJ : JW hd ks n am w1 F1 B1) : EV (hc_π l D ks tl Z) lw_M E cells slots 1450 [some (.ref b), some (.ref (am 0)), some (.ref (bm 60)), some (.ref oq), some (.int (nI i)), v5, v6] [] (mo_W mo_ci bm (ks 0) (ks 1) F1 B1 ++ (w1 ++ [lw_o ks oq o'])) := by
  obtain ⟨K', am', N', S', rfl, e0, hR⟩ := hJ
  refine ev_swap ?_
  refine ev_wd hc hs ?_
  refine ev_fg (fun j v hj => ?_) (kk K' am' N' S' o' F1 B1 e0 hR)
  rcases j with _ | _ | _ | _ | _ | _ | _ | j
  · exact hj
  · exact hj
  · exact hj
  · exact hj
  · exact hj
  · replace hj : some none = some (some v) := hj
    cases hj
  · replace hj : some none = some (some v) := hj
    cases hj
  · replace hj : none = some (some v) := hj
    cases hj
section JP
variable {l : Launch} {D : va_G} {tl : List (ClassId × FieldType)} {Z : (Nat → Prop) → State → Heap → Prop} {ks : Nat → ClassId} {bm : Nat → Nat} {n : Nat} {hd : Nat → Nat} {K : List Nat} {am N : Nat → Nat} {S : gS} {F : Nat → Int32} {B : Nat → Nat → Int32}
theorem mo_qi_up {P P' : Int32 → (Nat → Int32) → (Nat → Nat → Int32) → Prop} {kI kZ : ClassId} (h : ∀ x F1 B1, P x F1 B1 → P' x F1 B1) : ∀ r w, mo_qi bm kI kZ P r w → mo_qi bm kI kZ P' r w := fun _ _ ⟨x, F1, B1, e1, e2, hp⟩ => ⟨x, F1, B1, e1, e2, h x F1 B1 hp⟩
theorem jp_passed (hZ : ev_Zok Z) (H : RX hd n K am N S F B) : ∃ y, MT (hc_π l D ks tl Z) (m_hc_passed 21 0 0) 0 0 [.ref (am 0)] (gw K am ks N S) (fun r w => w = gw K am ks N S ∧ r = some (.int y)) ∧ MT (hc_π l D ks tl Z) m_passed 0 0 [.ref (bm 60)] (mo_W mo_ci bm (ks 0) (ks 1) F B) (mo_qi bm (ks 0) (ks 1) (fun x F1 B1 => x = y ∧ RX hd (n + 1) K am N S F1 B1)) := by
  have H0 := H
  obtain ⟨NT, ni, nf, nd, Lv, Md, ct, dp, pt, sz, al, dr, hm, ar, rs, ru, cf, hp, hM, h⟩ := H
  obtain ⟨a1, a2, a3, a4, ⟨a5, a6⟩, a7, a8, a9, a10⟩ := h
  have hL6 := a9.1.2.2
  refine ⟨_, ht_hc_passed (a1.1.1.2 0 (by decide)) Lv a9.1.1 hL6 (a1.1.1.2 7 (by decide)) a1.1.2.1.2.2.2.2.2.2.1 a1.1.2.2.2.2.2.2.2.2.1, mt_mono (mt_passed hZ (fun q => ?_)) (mo_qi_up ?_)⟩
  · rw [a9.1.2.1] at q ⊢
    have : Lv ≠ 0 := fun z => q (by rw [z]; rfl)
    rw [n_s1 (by omega)]; exact vp_in_nI (by omega) (by decide)
  · rintro x F1 B1 ⟨rfl, rfl, rfl⟩
    refine ⟨?_, H0.ex (fun f hf => upd_ne (by omega)) (fun _ _ => rfl)⟩
    rw [a9.1.2.1]
    by_cases c : Lv = 0
    · rw [if_pos (by rw [c]; rfl), if_pos c]
    · rw [if_neg (fun z => c (n_eq Lv 0 z)), if_neg c, n_s1 (by omega), nI_clamp (by omega)]
      exact (a9.2.1 (Lv - 1) (by omega)).2.2.2.2.symm
theorem jp_depth (hZ : ev_Zok Z) (H : RX hd n K am N S F B) : ∃ y, MT (hc_π l D ks tl Z) (m_hc_depth 21 0 0) 0 0 [.ref (am 0)] (gw K am ks N S) (fun r w => w = gw K am ks N S ∧ r = some (.int y)) ∧ MT (hc_π l D ks tl Z) m_depth 0 0 [.ref (bm 60)] (mo_W mo_ci bm (ks 0) (ks 1) F B) (mo_qi bm (ks 0) (ks 1) (fun x F1 B1 => x = y ∧ RX hd (n + 1) K am N S F1 B1)) := by
  have H0 := H
  obtain ⟨NT, ni, nf, nd, Lv, Md, ct, dp, pt, sz, al, dr, hm, ar, rs, ru, cf, hp, hM, h⟩ := H
  obtain ⟨a1, a2, a3, a4, ⟨a5, a6⟩, a7, a8, a9, a10⟩ := h
  refine ⟨nI Lv, mt_mono (ht_hc_depth (a1.1.1.2 0 (by decide)) (nI Lv) a9.1.1) ?_, mt_mono (mt_depth hZ) (mo_qi_up ?_)⟩
  · rintro r w ⟨rfl, y, rfl, rfl⟩; exact ⟨rfl, rfl⟩
  · rintro x F1 B1 ⟨rfl, rfl, rfl⟩
    exact ⟨a9.1.2.1, H0.ex (fun f hf => upd_ne (by omega)) (fun _ _ => rfl)⟩
theorem jp_level (hZ : ev_Zok Z) (H : RX hd n K am N S F B) (p0 : Int32) : ∃ y, MT (hc_π l D ks tl Z) (m_hc_level 21 0 0) 0 0 [.ref (am 0), .int p0] (gw K am ks N S) (fun r w => w = gw K am ks N S ∧ r = some (.int y)) ∧ MT (hc_π l D ks tl Z) m_level 0 0 [.ref (bm 60), .int p0] (mo_W mo_ci bm (ks 0) (ks 1) F B) (mo_qi bm (ks 0) (ks 1) (fun x F1 B1 => x = y ∧ RX hd (n + 1) K am N S F1 B1)) := by
  have H0 := H
  obtain ⟨NT, ni, nf, nd, Lv, Md, ct, dp, pt, sz, al, dr, hm, ar, rs, ru, cf, hp, hM, h⟩ := H
  obtain ⟨a1, a2, a3, a4, ⟨a5, a6⟩, a7, a8, a9, a10⟩ := h
  have hL6 := a9.1.2.2
  have rng : ¬ p0 < 0 → ¬ nI Lv ≤ p0 → ∃ j, j < Lv ∧ p0 = nI j := fun h1 h2 => by
    obtain ⟨j, hj, rfl⟩ := nI_of h1
    exact ⟨j, n_nle Lv j h2, rfl⟩
  refine ⟨if p0 < 0 ∨ F 29 ≤ p0 then -1 else B 30 p0.toNatClampNeg, mt_mono (ht_hc_level p0 (a1.1.1.2 0 (by decide)) Lv a9.1.1 hL6 (a1.1.1.2 5 (by decide)) a1.1.2.1.2.2.2.2.1 a1.1.2.2.2.2.2.2.1) ?_, mt_mono (mt_level hZ p0 (fun h1 h2 => ?_)) (mo_qi_up ?_)⟩
  · rintro r w ⟨rfl, ⟨c, rfl⟩ | ⟨j, hj, rfl, rfl⟩⟩
    · refine ⟨rfl, ?_⟩
      rw [if_pos (c.imp_right (fun z => by rw [a9.1.2.1]; exact Int32.not_lt.mp z))]
    · refine ⟨rfl, ?_⟩
      rw [if_neg (fun z => z.elim (fun y => absurd y (nI_pos (by omega))) (fun y => by rw [a9.1.2.1] at y; exact absurd (n_le Lv j y) (by omega))), nI_clamp (by omega), (a9.2.1 j hj).2.1, (a9.2.1 j hj).1]
  · rw [a9.1.2.1] at h2
    obtain ⟨j, hj, rfl⟩ := rng h1 h2
    exact vp_in_nI (by omega) (by decide)
  · rintro x F1 B1 ⟨rfl, rfl, rfl⟩
    exact ⟨rfl, H0.ex (fun f hf => upd_ne (by omega)) (fun _ _ => rfl)⟩
end JP
