theorem lt34 {n : Int32} : 3 < n ↔ 4 ≤ n := by
  rw [Int32.lt_iff_toInt_lt, Int32.le_iff_toInt_le]
  show (3 : Int) < _ ↔ (4 : Int) ≤ _
  omega
theorem TB2.rf {B B2 : Nat → Nat → Int32} (e : ∀ f, f < 37 → B2 f = B f) (h20 : ∀ x, x < 102 → B 20 x = 0 ∧ B 21 x = 0) : TB2 B fr0 B2 0 := ⟨fun f hf => e f (by omega), fun x => by rw [e 16 (by omega)], fun x _ _ => ⟨fun ⟨j, hj, _⟩ => absurd hj (Nat.not_lt_zero j), fun w => absurd w (by unfold fr0; decide)⟩, fun x hx => by rw [e 20 (by omega), e 21 (by omega)]; exact h20 x hx⟩
/-- a trap that sprang at once -/
theorem RR.trap0 {K : List Nat} {am N hd : Nat → Nat} {S S9 : gS} {F F2 : Nat → Int32} {B B2 : Nat → Nat → Int32} {NT ni nf nd Lv Md z : Nat} {ct dp sz al dr hm ar rs ru cf hp : Nat → Nat} {pt : Nat → Nat → Nat} {c p : Int32} (H : RR hd K am N S F B NT ni nf nd Lv Md ct dp pt sz al dr hm ar rs ru cf hp) (hz : z < ni) (hE : EAQ hd (sp_S S c p) S9 z ni Lv (B 15) (B 30) (fun a h => hof B fr0 (17 * a + h + 1))) (hB : ∀ f, f < 37 → B2 f = B f) (hB2 : ∀ f, 42 < f → B2 f = B f) (hF : ∀ f, f = 1 ∨ f = 10 ∨ f = 12 ∨ f = 22 ∨ f = 25 → F2 f = F f) : RR hd K am N S9 (mo_tF F2 c p (nI z)) (mo_tB B2 0 Lv z) NT ni nf nd 0 Md ct dp pt sz al dr hm ar rs ru cf (fun _ => 128) := by
  have H0 := H
  obtain ⟨a1, a2, a3, a4, ⟨a5, a6⟩, a7, a8, a9, a10⟩ := H
  have kk := kpK.rf K am N
  have h16b : ∀ x, 102 ≤ x → B 16 x = 0 := fun x hx => Decidable.byContradiction fun w => by
    obtain ⟨a, g, c1, c2, c3⟩ := a6.1 x w
    have := a4.1.2.2
    omega
  refine H0.trap2 (J := 0) (S1 := sp_S S c p) (B1 := B) hz (by decide) ⟨fun k j _ _ h3 _ _ _ => sp_k h3, fun _ _ _ _ => rfl, rfl, fun _ _ => rfl⟩ hE (sp_0 S c p) (sp_1 S c p) (fun j hj a ha => (a4.2.1 j hj).2.2.2.2 a ha) (a5.1.tr (fun i hi => (a4.2.1 i hi).1) kk (fun i h j _ _ => sp_k (by omega)) (fun _ _ _ => rfl)) (TB1.sc (mo_sc.rf B) a4.2.2.2.1 a4.2.2.2.2.1 a6.2.2.1 h16b) (TB2.rf hB a5.2) (fun f hf => ?_) hF
  unfold ps_un at hf
  rcases Nat.lt_or_ge f 37 with q | q
  · exact hB f q
  · exact hB2 f (by omega)
theorem jn_make {l : Launch} {D : va_G} {tl : List (ClassId × FieldType)} {Z : (Nat → Prop) → State → Heap → Prop} {ks : Nat → ClassId} {bm : Nat → Nat} {k n : Nat} {hd : Nat → Nat} {K : List Nat} {am N : Nat → Nat} {S : gS} {F : Nat → Int32} {B : Nat → Nat → Int32} (hl : l.stackTraces = false) (hzx : hc_ZX Z) (hZ : ev_Zok Z) (hNw : hc_ZN Z) (hAO : hc_AO Z) (ta tz : Nat) (hST : hc_ST Z ta tz) (hZ9 : ho_Z Z hd) (hDi : ho_D hd) (hk : 20 < k) (hn : n < 1000) (H : RX hd n K am N S F B) (p0 : Int32) : ∃ Q X P, MX (hc_π l D ks tl Z) (m_hc_make k 1 6) 1 6 [.ref (am 0), .int p0] (gw K am ks N S) Q X ∧ MT (hc_π l D ks tl Z) m_make 0 0 [.ref (bm 60), .int p0] (mo_W mo_ci bm (ks 0) (ks 1) F B) (mo_qi bm (ks 0) (ks 1) P) ∧ JI hd ks n K am N S cd_make P Q X := by
  have H0 := H
  obtain ⟨NT, ni, nf, nd, Lv, Md, ct, dp, pt, sz, al, dr, hm, ar, rs, ru, cf, hp, hM, h⟩ := H
  have h9 := h
  obtain ⟨a1, a2, a3, a4, ⟨a5, a6⟩, a7, a8, a9, a10⟩ := h9
  have hn6 := a4.1.2.2
  have h32 := a2.1.1
  have hLv6 := a9.1.2.2
  have hnd6 := a3.1.2.2
  have hnf12 := a8.1.2.2
  have hL0 : F 29 = 0 ↔ Lv = 0 := by rw [a9.1.2.1]; exact n_z (by have := a9.1.2.2; omega)
  refine ⟨_, _, _, hx_hc_make p0 hl hzx hZ a1.1 hn6 a4.1.1 (fun i hi => ⟨(a4.2.1 i hi).1, (a4.2.1 i hi).2.1⟩) a9.1.1 a9.1.2.2 (fun k9 hk9 => ⟨(a9.2.1 k9 hk9).1, (a9.2.1 k9 hk9).2.2.1⟩) hd hZ9 hDi a5.1 (fun x hx => (a5.2 x hx).1) a7.1.2 (by omega), mt_make hZ p0 Lv a9.1.2.1 a9.1.2.2 (ru (Lv - 1)) (fun q => ⟨(a9.2.1 _ (by omega)).2.1, by have := (a9.2.1 (Lv - 1) (by omega)).2.2.1; omega⟩) Md a7.1.1 (by omega), ?_, ?_⟩
  · rintro r w ⟨hLp, kd, hk4, rfl, hfh, rfl, rfl⟩
    refine ⟨_, rfl, ?_⟩
    rintro x F1 B1 (⟨c, -⟩ | ⟨-, c, -⟩ | ⟨-, -, -, c, -⟩ | ⟨-, -, -, -, rfl, rfl, rfl⟩)
    · have := hL0.mp c; omega
    · rcases c with c | c
      · exact absurd c (nI_pos (by omega))
      · exact absurd (n_lt 3 kd c) (by omega)
    · exact absurd c hfh
    · have hR := (a9.2.1 (Lv - 1) (by omega)).2.2.1
      rcases mo_fh_ok (B 16) (17 * ru (Lv - 1)) 16 (Nat.le_refl _) with c | ⟨c1, c2, c3⟩
      · exact absurd c hfh
      · have ek : 202 + 20 * ru (Lv - 1) + mo_fh (B 16) (17 * ru (Lv - 1)) 16 = 203 + 20 * ru (Lv - 1) + (mo_fh (B 16) (17 * ru (Lv - 1)) 16 - 1) := by omega
        have ex : 17 * ru (Lv - 1) + mo_fh (B 16) (17 * ru (Lv - 1)) 16 = 17 * ru (Lv - 1) + (mo_fh (B 16) (17 * ru (Lv - 1)) 16 - 1) + 1 := by omega
        refine ⟨by rw [upd_ne (by decide), upd_eq], rfl, _, _, _, _, rfl, rfl, NT, ni, nf, nd, Lv, Md + 1, ct, dp, pt, sz, al, dr, hm, ar, rs, ru, cf, hp, by omega, ?_⟩
        rw [ek]
        refine h.make (i := ru (Lv - 1)) (h := mo_fh (B 16) (17 * ru (Lv - 1)) 16 - 1) (by omega) hR (by omega) (by rw [← ex]; exact c3) hk4 ?_ ?_ ?_ ?_ (fun f f1 f2 f3 f4 => ?_) (by rw [upd_eq, a7.1.1, nI_1]) (fun f hf => by rw [upd_ne (by omega), upd_ne (by omega)])
        · rw [va_up_ne _ _ (by decide), va_up_ne _ _ (by decide), va_up_ne _ _ (by decide), va_up_self, ex]
        · rw [va_up_ne _ _ (by decide), va_up_self, ex, a7.1.1]
        · rw [va_up_ne _ _ (by decide), va_up_ne _ _ (by decide), va_up_self, ex]
        · rw [va_up_self]
        · rw [va_up_ne _ _ f4, va_up_ne _ _ f2, va_up_ne _ _ f3, va_up_ne _ _ f1]
  · rintro E w ⟨rfl, ⟨rfl, c⟩ | ⟨rfl, c0, c⟩ | ⟨rfl, c0, ⟨kd, hk4, rfl⟩, c⟩⟩
    · refine ⟨1, Or.inl ⟨rfl, rfl⟩, ?_⟩
      rintro x F1 B1 (⟨-, -, rfl, rfl⟩ | ⟨d, -⟩ | ⟨d, -⟩ | ⟨d, -⟩)
      · exact JW.e0 H0
      · exact absurd (hL0.mpr c) d
      · exact absurd (hL0.mpr c) d
      · exact absurd (hL0.mpr c) d
    · refine ⟨2, Or.inr (Or.inl ⟨rfl, rfl⟩), ?_⟩
      rintro x F1 B1 (⟨d, -⟩ | ⟨-, -, -, rfl, rfl⟩ | ⟨-, d1, d2, -⟩ | ⟨-, d1, d2, -⟩)
      · have := hL0.mp d; omega
      · exact JW.e0 H0
      · exact absurd ⟨d1, fun z => d2 (lt34.mpr z)⟩ c
      · exact absurd ⟨d1, fun z => d2 (lt34.mpr z)⟩ c
    · refine ⟨3, Or.inr (Or.inr ⟨rfl, rfl⟩), ?_⟩
      rintro x F1 B1 (⟨d, -⟩ | ⟨-, d, -⟩ | ⟨-, -, -, -, -, rfl, rfl⟩ | ⟨-, -, -, d, -⟩)
      · have := hL0.mp d; omega
      · rcases d with d | d
        · exact absurd d (nI_pos (by omega))
        · exact absurd (n_lt 3 kd d) (by omega)
      · exact JW.e0 H0
      · exact absurd c d
theorem jn_drop {l : Launch} {D : va_G} {tl : List (ClassId × FieldType)} {Z : (Nat → Prop) → State → Heap → Prop} {ks : Nat → ClassId} {bm : Nat → Nat} {k n : Nat} {hd : Nat → Nat} {K : List Nat} {am N : Nat → Nat} {S : gS} {F : Nat → Int32} {B : Nat → Nat → Int32} (hl : l.stackTraces = false) (hzx : hc_ZX Z) (hZ : ev_Zok Z) (hNw : hc_ZN Z) (hAO : hc_AO Z) (ta tz : Nat) (hST : hc_ST Z ta tz) (hZ9 : ho_Z Z hd) (hDi : ho_D hd) (hk : 20 < k) (hn : n < 1000) (H : RX hd n K am N S F B) (p0 : Int32) : ∃ Q X P, MX (hc_π l D ks tl Z) (m_hc_drop k 1 6) 1 6 [.ref (am 0), .int p0] (gw K am ks N S) Q X ∧ MT (hc_π l D ks tl Z) m_drop 0 0 [.ref (bm 60), .int p0] (mo_W mo_ci bm (ks 0) (ks 1) F B) (mo_qi bm (ks 0) (ks 1) P) ∧ JI hd ks n K am N S cd_drop P Q X := by
  have H0 := H
  obtain ⟨NT, ni, nf, nd, Lv, Md, ct, dp, pt, sz, al, dr, hm, ar, rs, ru, cf, hp, hM, h⟩ := H
  have h9 := h
  obtain ⟨a1, a2, a3, a4, ⟨a5, a6⟩, a7, a8, a9, a10⟩ := h9
  have hn6 := a4.1.2.2
  have h32 := a2.1.1
  have hLv6 := a9.1.2.2
  have hnd6 := a3.1.2.2
  have hnf12 := a8.1.2.2
  have hL0 : F 29 = 0 ↔ Lv = 0 := by rw [a9.1.2.1]; exact n_z (by have := a9.1.2.2; omega)
  refine ⟨_, _, _, hx_hc_drop p0 hl hzx hZ a1.1 hn6 a4.1.1 (fun i hi => ⟨(a4.2.1 i hi).1, (a4.2.1 i hi).2.1⟩) a9.1.1 a9.1.2.2 (fun k9 hk9 => ⟨(a9.2.1 k9 hk9).1, (a9.2.1 k9 hk9).2.2.1⟩) hd hZ9 hDi a5.1 (fun x hx => (a5.2 x hx).1) (fun y _ hu => by obtain ⟨r, hr, e⟩ := a6.2.1 y hu; rw [e, nI_clamp (by omega)]; exact (a7.2.1 r hr).1) (by omega), mt_drop hZ p0 Lv a9.1.2.1 a9.1.2.2 (ru (Lv - 1)) (fun q => ⟨(a9.2.1 _ (by omega)).2.1, by have := (a9.2.1 (Lv - 1) (by omega)).2.2.1; omega⟩) (fun j _ _ hu _ => by obtain ⟨r, hr, e⟩ := a6.2.1 _ hu; rw [e]; exact vp_in_nI (by omega) (by decide)) a6.2.2.1, ?_, ?_⟩
  · rintro r w ⟨hLp, h9, hh, rfl, hu, hln, hc⟩
    have hR := (a9.2.1 (Lv - 1) (by omega)).2.2.1
    have nl := a6.nl hn6 a5.2 (x := 17 * ru (Lv - 1) + h9 + 1) (by omega) hln
    have ei : ∀ j, nI (h9 + 1) = nI j → j ≤ 16 → j = h9 + 1 := fun j e hj => (je e (by omega) (by omega)).symm
    rcases hc with ⟨ho, rfl, kd, hk4, e23, rfl⟩ | ⟨ho, rfl, i', h', hi', hh', e19, rfl⟩
    · refine ⟨_, rfl, ?_⟩
      rintro x F1 B1 (⟨c, -⟩ | ⟨-, c, -⟩ | ⟨-, j, j1, j2, e, -, c, -⟩ | ⟨-, j, j1, j2, e, -, -, ex, eF, c⟩)
      · have := hL0.mp c; omega
      · exact absurd (c (h9 + 1) (by omega) (by omega) rfl) hu
      · have ej := ei j e j2
        subst ej
        exact absurd hln c
      · have ej := ei j e j2
        subst ej
        rcases c with ⟨d, -⟩ | ⟨-, eB⟩
        · exact absurd d ho
        · subst eB
          subst eF
          have o1 : B 18 (17 * ru (Lv - 1) + h9 + 1) = 1 := (a6.2.2.1 _).elim (fun z => absurd z ho) id
          refine ⟨upd_eq, ex.trans o1, _, _, _, _, rfl, rfl, NT, ni, nf, nd, Lv, Md, ct, dp, pt, sz, al, dr, hm, ar, rs, ru, cf, hp, by omega, ?_⟩
          exact h.destroy (by omega) hR hh hu ho nl hk4 e23 (by rw [va_up_ne _ _ (by decide), va_up_self]; rfl) (by rw [va_up_self]; rfl) (fun f f1 f2 => by rw [va_up_ne _ _ f2, va_up_ne _ _ f1]) (fun f hf => upd_ne (by omega))
    · refine ⟨_, rfl, ?_⟩
      rintro x F1 B1 (⟨c, -⟩ | ⟨-, c, -⟩ | ⟨-, j, j1, j2, e, -, c, -⟩ | ⟨-, j, j1, j2, e, -, -, ex, eF, c⟩)
      · have := hL0.mp c; omega
      · exact absurd (c (h9 + 1) (by omega) (by omega) rfl) hu
      · have ej := ei j e j2
        subst ej
        exact absurd hln c
      · have ej := ei j e j2
        subst ej
        rcases c with ⟨-, eB⟩ | ⟨d, -⟩
        · subst eB
          subst eF
          refine ⟨upd_eq, ex.trans ho, _, _, _, _, rfl, rfl, NT, ni, nf, nd, Lv, Md, ct, dp, pt, sz, al, dr, hm, ar, rs, ru, cf, hp, by omega, ?_⟩
          exact h.unlend hR hh hi' hh' hu ho e19 nl (by rw [va_up_self]; rfl) (fun f f1 => by rw [va_up_ne _ _ f1]) (fun f hf => upd_ne (by omega))
        · exact absurd ho d
  · rintro E w ⟨rfl, ⟨rfl, c⟩ | ⟨rfl, c0, c⟩ | ⟨rfl, c0, h9, hh, rfl, c1, c2⟩⟩
    · refine ⟨1, Or.inl ⟨rfl, rfl⟩, ?_⟩
      rintro x F1 B1 (⟨-, -, rfl, rfl⟩ | ⟨d, -⟩ | ⟨d, -⟩ | ⟨d, -⟩)
      · exact JW.e0 H0
      · exact absurd (hL0.mpr c) d
      · exact absurd (hL0.mpr c) d
      · exact absurd (hL0.mpr c) d
    · refine ⟨2, Or.inr (Or.inl ⟨rfl, rfl⟩), ?_⟩
      rintro x F1 B1 (⟨d, -⟩ | ⟨-, -, -, rfl, rfl⟩ | ⟨-, j, j1, j2, e, d, -⟩ | ⟨-, j, j1, j2, e, d, -⟩)
      · have := hL0.mp d; omega
      · exact JW.e0 H0
      · exact absurd (c j j1 j2 e) d
      · exact absurd (c j j1 j2 e) d
    · refine ⟨3, Or.inr (Or.inr ⟨rfl, rfl⟩), ?_⟩
      rintro x F1 B1 (⟨d, -⟩ | ⟨-, d, -⟩ | ⟨-, j, j1, j2, e, -, -, -, rfl, rfl⟩ | ⟨-, j, j1, j2, e, -, d, -⟩)
      · have := hL0.mp d; omega
      · exact absurd (d (h9 + 1) (by omega) (by omega) rfl) c1
      · exact JW.e0 H0
      · have ej : j = h9 + 1 := (je e (by omega) (by omega)).symm
        subst ej
        exact absurd d c2
theorem jn_close {l : Launch} {D : va_G} {tl : List (ClassId × FieldType)} {Z : (Nat → Prop) → State → Heap → Prop} {ks : Nat → ClassId} {bm : Nat → Nat} {k n : Nat} {hd : Nat → Nat} {K : List Nat} {am N : Nat → Nat} {S : gS} {F : Nat → Int32} {B : Nat → Nat → Int32} (hl : l.stackTraces = false) (hzx : hc_ZX Z) (hZ : ev_Zok Z) (hNw : hc_ZN Z) (hAO : hc_AO Z) (ta tz : Nat) (hST : hc_ST Z ta tz) (hZ9 : ho_Z Z hd) (hDi : ho_D hd) (hk : 20 < k) (hn : n < 1000) (H : RX hd n K am N S F B) (p0 : Int32) : ∃ Q X P, MX (hc_π l D ks tl Z) (m_hc_close k 1 6) 1 6 [.ref (am 0), .int p0] (gw K am ks N S) Q X ∧ MT (hc_π l D ks tl Z) m_close 0 0 [.ref (bm 60), .int p0] (mo_W mo_ci bm (ks 0) (ks 1) F B) (mo_qi bm (ks 0) (ks 1) P) ∧ JI hd ks n K am N S cd_close P Q X := by
  have H0 := H
  obtain ⟨NT, ni, nf, nd, Lv, Md, ct, dp, pt, sz, al, dr, hm, ar, rs, ru, cf, hp, hM, h⟩ := H
  have h9 := h
  obtain ⟨a1, a2, a3, a4, ⟨a5, a6⟩, a7, a8, a9, a10⟩ := h9
  have hn6 := a4.1.2.2
  have h32 := a2.1.1
  have hLv6 := a9.1.2.2
  have hnd6 := a3.1.2.2
  have hnf12 := a8.1.2.2
  refine ⟨_, _, _, hx_hc_close p0 hl hzx hZ a1.1 hn6 a4.1.1 (fun i hi => ⟨(a4.2.1 i hi).1, (a4.2.1 i hi).2.1⟩) (b15 := B 15) (fun i hi => (a4.2.1 i hi).2.2.2.1) hd hZ9 hDi a5.1 (fun x hx => (a5.2 x hx).1) (fun y _ hu => by obtain ⟨r, hr, e⟩ := a6.2.1 y hu; rw [e, nI_clamp (by omega)]; exact (a7.2.1 r hr).1) (by omega), mt_close hZ p0 ni a4.1.2.1 hn6 (fun y _ hu _ => by obtain ⟨r, hr, e⟩ := a6.2.1 y hu; rw [e]; exact vp_in_nI (by omega) (by decide)) (fun ii n => cl_at B (17 * ii) (17 * ii + (n + 1)) n (Or.inl (by omega))), ?_, ?_⟩
  · rintro r w ⟨j, hj, rfl, c1, c2, rfl, rfl⟩
    refine ⟨_, rfl, ?_⟩
    rintro x F1 B1 (⟨c, -⟩ | ⟨ii, hi, e, c, -⟩ | ⟨ii, hi, e, -, -, rfl, rfl, rfl⟩)
    · exact absurd (jr a4.1.2.1 hj (by omega)) c
    · obtain rfl := je e (by omega) (by omega)
      rcases c with c | c
      · exact absurd c c1
      · exact absurd c c2
    · obtain rfl := je e (by omega) (by omega)
      obtain ⟨g1, g2⟩ := h.close (F' := upd F 0 0) (by omega) hj c1 (fun f hf => upd_ne (by omega)) 16 (Nat.le_refl _)
      exact ⟨upd_eq, by rw [g2], _, _, _, _, rfl, rfl, NT, ni, nf, nd, Lv, Md, ct, dp, pt, sz, al, dr, hm, ar, rs, ru, cf, hp, by omega, g1⟩
  · rintro E w ⟨rfl, ⟨rfl, c⟩ | ⟨rfl, j, hj, rfl, c⟩⟩
    · refine ⟨1, Or.inl ⟨rfl, rfl⟩, ?_⟩
      rintro x F1 B1 (⟨-, -, rfl, rfl⟩ | ⟨ii, hi, rfl, -⟩ | ⟨ii, hi, rfl, -⟩)
      · exact JW.e0 H0
      · exact absurd (jr rfl hi (by omega)) c
      · exact absurd (jr rfl hi (by omega)) c
    · refine ⟨2, Or.inr ⟨rfl, rfl⟩, ?_⟩
      rintro x F1 B1 (⟨d, -⟩ | ⟨ii, hi, e, -, -, rfl, rfl⟩ | ⟨ii, hi, e, d1, d2, -⟩)
      · exact absurd (jr a4.1.2.1 hj (by omega)) d
      · exact JW.e0 H0
      · obtain rfl := je e (by omega) (by omega)
        rcases c with c | c
        · exact absurd c d1
        · exact absurd c d2
theorem jn_trap {l : Launch} {D : va_G} {tl : List (ClassId × FieldType)} {Z : (Nat → Prop) → State → Heap → Prop} {ks : Nat → ClassId} {bm : Nat → Nat} {k n : Nat} {hd : Nat → Nat} {K : List Nat} {am N : Nat → Nat} {S : gS} {F : Nat → Int32} {B : Nat → Nat → Int32} (hl : l.stackTraces = false) (hzx : hc_ZX Z) (hZ : ev_Zok Z) (hNw : hc_ZN Z) (hAO : hc_AO Z) (ta tz : Nat) (hST : hc_ST Z ta tz) (hZ9 : ho_Z Z hd) (hDi : ho_D hd) (hk : 20 < k) (hn : n < 1000) (H : RX hd n K am N S F B)  : ∃ Q X P, MX (hc_π l D ks tl Z) (m_hc_trap k 1 6) 1 6 [.ref (am 0)] (gw K am ks N S) Q X ∧ MT (hc_π l D ks tl Z) m_trap 0 0 [.ref (bm 60)] (mo_W mo_ci bm (ks 0) (ks 1) F B) (mo_qv bm (ks 0) (ks 1) P) ∧ JV hd ks n K am N S cd_trap P Q X := by
  have H0 := H
  obtain ⟨NT, ni, nf, nd, Lv, Md, ct, dp, pt, sz, al, dr, hm, ar, rs, ru, cf, hp, hM, h⟩ := H
  have h9 := h
  obtain ⟨a1, a2, a3, a4, ⟨a5, a6⟩, a7, a8, a9, a10⟩ := h9
  have hn6 := a4.1.2.2
  have h32 := a2.1.1
  have hLv6 := a9.1.2.2
  have hnd6 := a3.1.2.2
  have hnf12 := a8.1.2.2
  have hL0 : F 29 = 0 ↔ Lv = 0 := by rw [a9.1.2.1]; exact n_z (by have := a9.1.2.2; omega)
  refine ⟨_, _, _, hx_hc_trap hl hzx hZ a1.1 hn6 a4.1.1 (fun i hi => ⟨(a4.2.1 i hi).1, (a4.2.1 i hi).2.1⟩) a9.1.1 a9.1.2.2 (fun k9 hk9 => ⟨(a9.2.1 k9 hk9).1, (a9.2.1 k9 hk9).2.2.1⟩) (b15 := B 15) (b30 := B 30) (fun i hi => (a4.2.1 i hi).2.2.2.1) (fun k9 hk9 => (a9.2.1 k9 hk9).2.1) hd hZ9 hDi a5.1 (fun x hx => (a5.2 x hx).1) (by omega), mt_trap hZ Lv a9.1.2.1 a9.1.2.2 (ru (Lv - 1)) (fun q => ⟨(a9.2.1 _ (by omega)).2.1, by have := (a9.2.1 (Lv - 1) (by omega)).2.2.1; omega⟩) (fun k9 hk9 => a9.2.2.2.2.2 k9 (by have := a9.1.2.2; omega)), ?_, ?_⟩
  · rintro r w ⟨hLp, rfl, S9, rfl, hE⟩
    refine ⟨rfl, ?_⟩
    rintro F1 B1 (⟨c, -⟩ | ⟨-, rfl, rfl⟩)
    · have := hL0.mp c; omega
    · refine ⟨rfl, _, _, _, _, rfl, rfl, NT, ni, nf, nd, 0, Md, ct, dp, pt, sz, al, dr, hm, ar, rs, ru, cf, fun _ => 128, by omega, ?_⟩
      exact h.trap0 (a9.2.1 (Lv - 1) (by omega)).2.2.1 hE (fun _ _ => rfl) (fun _ _ => rfl) (fun f hf => by rw [upd_ne (by omega), upd_ne (by omega)])
  · rintro E w ⟨rfl, rfl, c⟩
    refine ⟨1, ⟨rfl, rfl⟩, ?_⟩
    rintro x F1 B1 (⟨-, rfl, rfl⟩ | ⟨d, -⟩)
    · exact JW.e0 H0
    · exact absurd (hL0.mpr c) d
theorem jn_instance {l : Launch} {D : va_G} {tl : List (ClassId × FieldType)} {Z : (Nat → Prop) → State → Heap → Prop} {ks : Nat → ClassId} {bm : Nat → Nat} {k n : Nat} {hd : Nat → Nat} {K : List Nat} {am N : Nat → Nat} {S : gS} {F : Nat → Int32} {B : Nat → Nat → Int32} (hl : l.stackTraces = false) (hzx : hc_ZX Z) (hZ : ev_Zok Z) (hNw : hc_ZN Z) (hAO : hc_AO Z) (ta tz : Nat) (hST : hc_ST Z ta tz) (hZ9 : ho_Z Z hd) (hDi : ho_D hd) (hk : 20 < k) (hn : n < 1000) (H : RX hd n K am N S F B)  : ∃ Q X P, MX (hc_π l D ks tl Z) (m_hc_instance k 19 356) 19 356 [.ref (am 0)] (gw K am ks N S) Q X ∧ MT (hc_π l D ks tl Z) m_instance 0 0 [.ref (bm 60)] (mo_W mo_ci bm (ks 0) (ks 1) F B) (mo_qi bm (ks 0) (ks 1) P) ∧ JI hd ks n K am N S cd_instance P Q X := by
  have H0 := H
  obtain ⟨NT, ni, nf, nd, Lv, Md, ct, dp, pt, sz, al, dr, hm, ar, rs, ru, cf, hp, hM, h⟩ := H
  have h9 := h
  obtain ⟨a1, a2, a3, a4, ⟨a5, a6⟩, a7, a8, a9, a10⟩ := h9
  have hn6 := a4.1.2.2
  have h32 := a2.1.1
  have hLv6 := a9.1.2.2
  have hnd6 := a3.1.2.2
  have hnf12 := a8.1.2.2
  refine ⟨_, _, _, hx_hc_instance hl hzx hZ hd hNw hAO hZ9 a1.1 hn6 a4.1.1 (fun k9 k1 k2 k3 z => by have := a1.2 _ z; omega) (by omega), mt_instance hZ (fun q => by rw [a4.1.2.1]; exact vp_in_nI (by have : ni ≠ 6 := fun w => q (by rw [a4.1.2.1, w]; rfl); omega) (by decide)), ?_, ?_⟩
  · rintro r w ⟨hni, rfl, q, am2, N2, S2, rfl, hQ⟩
    refine ⟨_, rfl, ?_⟩
    rintro x F1 B1 (⟨c, -⟩ | ⟨-, rfl, rfl, rfl⟩)
    · rw [a4.1.2.1] at c; exact absurd (n_eq ni 6 c) (by omega)
    · have e : (F 12).toNatClampNeg = ni := by rw [a4.1.2.1]; exact nI_clamp (by omega)
      refine ⟨by rw [upd_ne (by decide), upd_eq], by rw [a4.1.2.1, Int32.add_sub_cancel], _, _, _, _, rfl, ?_, NT, ni + 1, nf, nd, Lv, Md, ct, dp, pt, sz, al, dr, hm, ar, rs, ru, cf, va_up hp ni 128, by omega, h.newI hni hQ ?_ ?_ ?_ ?_⟩
      · rw [hQ.1 0 (by omega), va_up_ne _ _ (by omega)]
      · rw [va_up_self, e]
      · intro f _ hf; rw [va_up_ne _ _ hf]
      · rw [upd_eq, a4.1.2.1, nI_1]
      · intro f hf; rw [upd_ne (by omega), upd_ne (by omega)]
  · rintro E w ⟨rfl, rfl, c⟩
    refine ⟨1, ⟨rfl, rfl⟩, ?_⟩
    rintro x F1 B1 (⟨-, -, rfl, rfl⟩ | ⟨d, -⟩)
    · exact JW.e0 H0
    · exact absurd (by rw [a4.1.2.1, c]; rfl) d
theorem jn_function {l : Launch} {D : va_G} {tl : List (ClassId × FieldType)} {Z : (Nat → Prop) → State → Heap → Prop} {ks : Nat → ClassId} {bm : Nat → Nat} {k n : Nat} {hd : Nat → Nat} {K : List Nat} {am N : Nat → Nat} {S : gS} {F : Nat → Int32} {B : Nat → Nat → Int32} (hl : l.stackTraces = false) (hzx : hc_ZX Z) (hZ : ev_Zok Z) (hNw : hc_ZN Z) (hAO : hc_AO Z) (ta tz : Nat) (hST : hc_ST Z ta tz) (hZ9 : ho_Z Z hd) (hDi : ho_D hd) (hk : 20 < k) (hn : n < 1000) (H : RX hd n K am N S F B) (p0 : Int32) (p1 : Int32) (p2 : Int32) : ∃ Q X P, MX (hc_π l D ks tl Z) (m_hc_function k 1 6) 1 6 [.ref (am 0), .int p0, .int p1, .int p2] (gw K am ks N S) Q X ∧ MT (hc_π l D ks tl Z) m_function 0 0 [.ref (bm 60), .int p0, .int p1, .int p2] (mo_W mo_ci bm (ks 0) (ks 1) F B) (mo_qi bm (ks 0) (ks 1) P) ∧ JI hd ks n K am N S cd_function P Q X := by
  have H0 := H
  obtain ⟨NT, ni, nf, nd, Lv, Md, ct, dp, pt, sz, al, dr, hm, ar, rs, ru, cf, hp, hM, h⟩ := H
  have h9 := h
  obtain ⟨a1, a2, a3, a4, ⟨a5, a6⟩, a7, a8, a9, a10⟩ := h9
  have hn6 := a4.1.2.2
  have h32 := a2.1.1
  have hLv6 := a9.1.2.2
  have hnd6 := a3.1.2.2
  have hnf12 := a8.1.2.2
  refine ⟨_, _, _, hx_hc_function p0 p1 p2 hl hzx hZ a1.1 hn6 a4.1.1 (fun i hi => ⟨(a4.2.1 i hi).1, (a4.2.1 i hi).2.1⟩) a2.1 a2.2.1.1 (hb := fun t => if lb_r B ct pt 5 t = true then 1 else 0) (fun t ht => (a2.2.2.2.2.2 t ht).2.2.2.1) a8.1.2.2 a8.1.1 (fun w z => by have := a1.2 _ z; omega) (by omega), mt_function hZ p0 p1 p2 ni a4.1.2.1 hn6 NT a2.2.1.2 ct dp pt a2.2.2.1 nf a8.1.2.1 a8.1.2.2, ?_, ?_⟩
  · rintro r w ⟨j, a, b, hj, ha, hb, rfl, rfl, rfl, hlb, hnf, rfl, q, rfl⟩
    refine ⟨_, rfl, ?_⟩
    have lb0 : lb_r B ct pt 5 b = false := by
      cases e : lb_r B ct pt 5 b with
      | false => rfl
      | true => exact absurd hlb (by show ¬ (if lb_r B ct pt 5 b = true then (1 : Int32) else 0) = 0; rw [if_pos e]; decide)
    rintro x F1 B1 (⟨c, -⟩ | ⟨ii, aa, rr, hi, h1, h2, e1, e2, e3, c, -⟩ | ⟨ii, aa, rr, hi, h1, h2, e1, e2, e3, -, c, -⟩ | ⟨ii, aa, rr, hi, h1, h2, e1, e2, e3, -, -, rfl, ⟨w, rfl⟩, B2, hs, rfl⟩)
    · exact absurd ⟨jr a4.1.2.1 hj (by omega), jr a2.2.1.2 ha (by omega), jr a2.2.1.2 hb (by omega)⟩ c
    · obtain rfl := je e3 (by omega) (by omega)
      rw [lb0] at c; exact absurd c (by decide)
    · rw [a8.1.2.1] at c; exact absurd (n_eq nf 12 c) (by omega)
    · refine ⟨by rw [upd_ne (by decide), upd_eq], by rw [a8.1.2.1, Int32.add_sub_cancel], _, _, _, _, rfl, va_up_ne _ _ (by omega), NT, ni, nf + 1, nd, Lv, Md, ct, dp, pt, sz, al, dr, va_up hm nf j, va_up ar nf a, va_up rs nf b, ru, cf, hp, by omega, h.function hj ha hb hnf lb0 ?_ ?_ ?_ ?_ ?_ ?_⟩
      · rw [va_up_ne _ _ (by decide), va_up_ne _ _ (by decide), va_up_self, hs.1 26 (by omega)]
      · rw [va_up_ne _ _ (by decide), va_up_self, hs.1 27 (by omega)]
      · rw [va_up_self, hs.1 28 (by omega)]
      · intro f f0 f1 f2 f3; rw [va_up_ne _ _ f3, va_up_ne _ _ f2, va_up_ne _ _ f1]; exact hs.1 f (Or.inl f0)
      · rw [upd_eq, a8.1.2.1, nI_1]
      · intro f hf; rw [upd_ne (by omega), upd_ne (by omega), upd_ne (by omega)]
  · rintro E w ⟨rfl, ⟨rfl, c⟩ | ⟨rfl, j, a, b, hj, ha, hb, rfl, rfl, rfl, c⟩ | ⟨rfl, j, a, b, hj, ha, hb, rfl, rfl, rfl, hlb, c⟩⟩
    · refine ⟨1, Or.inl ⟨rfl, rfl⟩, ?_⟩
      rintro x F1 B1 (⟨-, -, rfl, hs⟩ | ⟨ii, aa, rr, hi, h1, h2, rfl, rfl, rfl, -⟩ | ⟨ii, aa, rr, hi, h1, h2, rfl, rfl, rfl, -⟩ | ⟨ii, aa, rr, hi, h1, h2, rfl, rfl, rfl, -⟩)
      · exact JW.e2 H0 hs
      · exact absurd ⟨jr rfl hi (by omega), jr rfl h1 (by omega), jr rfl h2 (by omega)⟩ c
      · exact absurd ⟨jr rfl hi (by omega), jr rfl h1 (by omega), jr rfl h2 (by omega)⟩ c
      · exact absurd ⟨jr rfl hi (by omega), jr rfl h1 (by omega), jr rfl h2 (by omega)⟩ c
    · refine ⟨2, Or.inr (Or.inl ⟨rfl, rfl⟩), ?_⟩
      have lb1 : lb_r B ct pt 5 b = true := Decidable.byContradiction fun z => c (if_neg z)
      rintro x F1 B1 (⟨d, -⟩ | ⟨ii, aa, rr, hi, h1, h2, e1, e2, e3, -, -, ⟨w, rfl⟩, hs⟩ | ⟨ii, aa, rr, hi, h1, h2, e1, e2, e3, d, -⟩ | ⟨ii, aa, rr, hi, h1, h2, e1, e2, e3, d, -⟩)
      · exact absurd ⟨jr a4.1.2.1 hj (by omega), jr a2.2.1.2 ha (by omega), jr a2.2.1.2 hb (by omega)⟩ d
      · exact JW.e1 H0 hs
      · obtain rfl := je e3 (by omega) (by omega)
        exact absurd lb1 d
      · obtain rfl := je e3 (by omega) (by omega)
        exact absurd lb1 d
    · refine ⟨3, Or.inr (Or.inr ⟨rfl, rfl⟩), ?_⟩
      have lb0 : ¬ lb_r B ct pt 5 b = true := fun z => absurd hlb (by show ¬ (if lb_r B ct pt 5 b = true then (1 : Int32) else 0) = 0; rw [if_pos z]; decide)
      rintro x F1 B1 (⟨d, -⟩ | ⟨ii, aa, rr, hi, h1, h2, e1, e2, e3, d, -⟩ | ⟨ii, aa, rr, hi, h1, h2, e1, e2, e3, -, -, -, ⟨w, rfl⟩, hs⟩ | ⟨ii, aa, rr, hi, h1, h2, e1, e2, e3, -, d, -⟩)
      · exact absurd ⟨jr a4.1.2.1 hj (by omega), jr a2.2.1.2 ha (by omega), jr a2.2.1.2 hb (by omega)⟩ d
      · obtain rfl := je e3 (by omega) (by omega)
        exact absurd d lb0
      · exact JW.e1 H0 hs
      · exact absurd (by rw [a8.1.2.1, c]; rfl) d
