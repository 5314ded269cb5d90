theorem ft_iff {k n d : Int32} : la_ft k n d ↔ (¬ k < 0 ∧ ¬ 12 < k) ∧ hp_of k d ∧ nu_of k n := by
  constructor
  · rintro ⟨h1, h2, h3, h4, h5, h6, h7⟩
    refine ⟨⟨h1, h2⟩, ?_, ?_⟩
    · by_cases c8 : k = 8
      · exact (hp_8 c8).mpr (h4 c8)
      · by_cases c9 : k = 9 ∨ k = 10
        · exact (hp_9 c9).mpr (h3 c9)
        · exact Or.inr (Or.inr ⟨c8, fun z => c9 (Or.inl z), fun z => c9 (Or.inr z), h5 c8 (fun z => c9 (Or.inl z)) (fun z => c9 (Or.inr z))⟩)
    · unfold nu_of
      by_cases c7 : k = 7
      · rw [if_pos c7]; exact h6 c7
      · rw [if_neg c7]
        by_cases c : k = 11 ∨ k = 12
        · rw [if_pos c]
          have := h7 (by rcases c with c | c <;> rw [c] <;> decide)
          exact ⟨this.1, fun z => this.2 (lt34.mpr z)⟩
        · rw [if_neg c]; trivial
  · rintro ⟨⟨h1, h2⟩, hp, nu⟩
    refine ⟨h1, h2, fun c => (hp_9 c).mp hp, fun c => (hp_8 c).mp hp, fun c8 c9 c10 => ?_, fun c => ?_, fun c => ?_⟩
    · rcases hp with ⟨w, -⟩ | ⟨w, -⟩ | ⟨-, -, -, w⟩
      · exact absurd w c8
      · exact absurd w (fun z => z.elim c9 c10)
      · exact w
    · unfold nu_of at nu
      rw [if_pos c] at nu
      exact nu
    · obtain ⟨kd, hk, rfl⟩ := nI_of h1
      have k1 := n_nlt kd 11 c
      have k2 := n_nlt 12 kd h2
      have c12 : nI kd = 11 ∨ nI kd = 12 := by
        obtain rfl | rfl : kd = 11 ∨ kd = 12 := by omega
        · exact Or.inl rfl
        · exact Or.inr rfl
      unfold nu_of at nu
      rw [if_neg (fun z => absurd (n_eq kd 7 z) (by omega)), if_pos c12] at nu
      exact ⟨nu.1, fun z => nu.2 (lt34.mp z)⟩
theorem rS.room {S : gS} {F : Nat → Int32} {B : Nat → Nat → Int32} {ni nf Lv : Nat} {ru cf : Nat → Nat} (h : rS S F B ni nf Lv ru cf) (hn : ni ≤ 6) : ∀ j, j < 6 → ¬ B 15 j = 1 → Lv < 6 := by
  intro j hj h1
  refine Nat.lt_of_not_le fun w => ?_
  have h6 := h.1.2.2
  have e6 : Lv = 6 := by omega
  subst e6
  have r : ∀ k, k < 6 → ru k < 6 ∧ ru k ≠ j := fun k hk => ⟨by have := (h.2.1 k hk).2.2.1; omega, fun z => h1 (by rw [← z]; exact (h.2.1 k hk).2.2.2.1)⟩
  have d := h.2.2.2.1
  have r0 := r 0 (by omega)
  have r1 := r 1 (by omega)
  have r2 := r 2 (by omega)
  have r3 := r 3 (by omega)
  have r4 := r 4 (by omega)
  have r5 := r 5 (by omega)
  have d01 := d 0 1 (by omega) (by omega)
  have d02 := d 0 2 (by omega) (by omega)
  have d03 := d 0 3 (by omega) (by omega)
  have d04 := d 0 4 (by omega) (by omega)
  have d05 := d 0 5 (by omega) (by omega)
  have d12 := d 1 2 (by omega) (by omega)
  have d13 := d 1 3 (by omega) (by omega)
  have d14 := d 1 4 (by omega) (by omega)
  have d15 := d 1 5 (by omega) (by omega)
  have d23 := d 2 3 (by omega) (by omega)
  have d24 := d 2 4 (by omega) (by omega)
  have d25 := d 2 5 (by omega) (by omega)
  have d34 := d 3 4 (by omega) (by omega)
  have d35 := d 3 5 (by omega) (by omega)
  have d45 := d 4 5 (by omega) (by omega)
  generalize ru 0 = u0 at *
  generalize ru 1 = u1 at *
  generalize ru 2 = u2 at *
  generalize ru 3 = u3 at *
  generalize ru 4 = u4 at *
  generalize ru 5 = u5 at *
  clear h r d h1
  have l : [u0, u1, u2, u3, u4, u5, j].Nodup := by
    simp only [List.nodup_cons, List.mem_cons, List.not_mem_nil, or_false, not_or, List.nodup_nil, and_true, not_false_eq_true]
    exact ⟨⟨d01, d02, d03, d04, d05, r0.2⟩, ⟨d12, d13, d14, d15, r1.2⟩, ⟨d23, d24, d25, r2.2⟩, ⟨d34, d35, r3.2⟩, ⟨d45, r4.2⟩, r5.2⟩
  have := List.Nodup.length_le_of_subset l (l₂ := List.range 6) (fun x hx => by
    simp only [List.mem_cons, List.not_mem_nil, or_false] at hx
    rw [List.mem_range]
    rcases hx with rfl | rfl | rfl | rfl | rfl | rfl | rfl
    · exact r0.1
    · exact r1.1
    · exact r2.1
    · exact r3.1
    · exact r4.1
    · exact r5.1
    · exact hj)
  simp at this
theorem jn_type {l : Launch} {D : va_G} {tl : List (ClassId × FieldType)} {Z : (Nat → Prop) → State → Heap → Prop} {ks : Nat → ClassId} {bm : Nat → Nat} {k n : Nat} {hd : Nat → Nat} {K : List Nat} {am N : Nat → Nat} {S : gS} {F : Nat → Int32} {B : Nat → Nat → Int32} (hl : l.stackTraces = false) (hzx : hc_ZX Z) (hZ : ev_Zok Z) (hNw : hc_ZN Z) (hAO : hc_AO Z) (ta tz : Nat) (hST : hc_ST Z ta tz) (hZ9 : ho_Z Z hd) (hDi : ho_D hd) (hk : 20 < k) (hn : n < 1000) (H : RX hd n K am N S F B) (p0 : Int32) (p1 : Int32) : ∃ Q X P, MX (hc_π l D ks tl Z) (m_hc_type k 4 27) 4 27 [.ref (am 0), .int p0, .int p1] (gw K am ks N S) Q X ∧ MT (hc_π l D ks tl Z) m_type 0 0 [.ref (bm 60), .int p0, .int p1] (mo_W mo_ci bm (ks 0) (ks 1) F B) (mo_qi bm (ks 0) (ks 1) P) ∧ JI hd ks n K am N S cd_type P Q X := by
  have H0 := H
  obtain ⟨NT, ni, nf, nd, Lv, Md, ct, dp, pt, sz, al, dr, hm, ar, rs, ru, cf, hp, hM, h⟩ := H
  have h9 := h
  obtain ⟨a1, a2, a3, a4, ⟨a5, a6⟩, a7, a8, a9, a10⟩ := h9
  have hn6 := a4.1.2.2
  have h32 := a2.1.1
  have hLv6 := a9.1.2.2
  have hnd6 := a3.1.2.2
  have hnf12 := a8.1.2.2
  refine ⟨_, _, _, hx_hc_type p0 p1 hl hzx hZ (dr := dr) (al := al) (sz := sz) (dp := dp) (bz := fun t => if lb_r B ct pt 5 t = true then 1 else 0) (nd := nd) (NT := NT) ta tz hNw hAO hST a1.1 h32 a2.2.1.1 a3.1.1 a3.1.2.2 ⟨fun z => by have := a1.2 _ z; omega, fun z => by have := a1.2 _ z; omega, fun z => by have := a1.2 _ z; omega⟩ (fun h hh => ⟨(a3.2 h hh).1, (a3.2 h hh).2.1, a2.1.k0 (a3.2 h hh).2.1, by rw [a2.1.f5 (a3.2 h hh).2.1, (a2.2.2.2.2.2 _ (a3.2 h hh).2.1).2.1], (a2.2.2.2.2.2 _ (a3.2 h hh).2.1).2.2.2.1, by rw [a2.1.f7 (a3.2 h hh).2.1, (a2.2.2.2.2.1.1 _ (a3.2 h hh).2.1).2.2.1], by rw [a2.1.f8 (a3.2 h hh).2.1, (a2.2.2.2.2.1.1 _ (a3.2 h hh).2.1).1], (a2.2.2.1.2.1 _ (a3.2 h hh).2.1).2.2.2, (a2.2.2.2.2.2 _ (a3.2 h hh).2.1).1, (a2.2.2.2.2.1.1 _ (a3.2 h hh).2.1).2.1⟩) (by omega), mt_type hZ p0 p1 NT a2.2.1.2 h32 nd a3.1.2.1 a3.1.2.2 dr al sz dp (fun j hj => ⟨(a3.2 j hj).2.2, by have := (a3.2 j hj).2.1; omega⟩) (fun j hj => ⟨(a2.2.2.2.2.1.1 _ (a3.2 j hj).2.1).2.2.1, (a2.2.2.2.2.1.1 _ (a3.2 j hj).2.1).2.2.2.1, (a2.2.2.2.2.1.1 _ (a3.2 j hj).2.1).2.2.2.2.1⟩) (fun j hj => ⟨(a2.2.2.2.2.1.1 _ (a3.2 j hj).2.1).1, (a2.2.2.2.2.1.1 _ (a3.2 j hj).2.1).2.1⟩) (fun j hj => ⟨(a2.2.2.2.2.2 _ (a3.2 j hj).2.1).2.1, (a2.2.2.1.2.1 _ (a3.2 j hj).2.1).2.2.2⟩), ?_, ?_⟩
  · rintro r w ⟨kd, rfl, hkd, hhp, hnu, hdp, hz, hNT, rfl, q, am2, N2, S2, rfl, hQ⟩
    refine ⟨_, rfl, ?_⟩
    have hft : la_ft (nI kd) p1 (F 10) := by rw [a3.1.2.1]; exact ft_iff.mpr ⟨⟨nI_pos (by omega), fun z => absurd (n_lt 12 kd z) (by omega)⟩, hhp, hnu⟩
    rintro x F1 B1 (⟨c, -⟩ | ⟨-, c, -⟩ | ⟨-, -, rfl, rfl, rfl⟩)
    · exact absurd ⟨hft, hdp, hz⟩ c
    · omega
    · refine ⟨by rw [upd_ne (by decide), upd_ne (by decide), upd_eq], rfl, _, _, _, _, rfl, ?_, NT + 1, ni, nf, 0, Lv, Md, va_up ct NT nd, va_up dp NT (la_dp dr dp nd), ptn pt NT dr, va_up sz NT (tZ kd dr al sz nd), va_up al NT (tA kd dr al nd), dr, hm, ar, rs, ru, cf, hp, by omega, h.type (f59 := B 59) hkd hNT hhp hdp hz hQ ?_ ?_ ?_ ?_ ?_ ?_ ?_ ?_ ?_ ?_ ?_ ?_⟩
      · rw [hQ.1 0 (by omega) (by omega), va_up_ne _ _ (by omega)]
      · rw [va_up_ne _ _ (by decide), va_up_ne _ _ (by decide), va_up_ne _ _ (by decide), va_up_ne _ _ (by decide), va_up_ne _ _ (by decide), va_up_ne _ _ (by decide), va_up_ne _ _ (by decide), va_up_self]
      · rw [va_up_ne _ _ (by decide), va_up_ne _ _ (by decide), va_up_ne _ _ (by decide), va_up_ne _ _ (by decide), va_up_ne _ _ (by decide), va_up_ne _ _ (by decide), va_up_self]
      · rw [va_up_ne _ _ (by decide), va_up_ne _ _ (by decide), va_up_ne _ _ (by decide), va_up_ne _ _ (by decide), va_up_ne _ _ (by decide), va_up_self]; rfl
      · rw [va_up_ne _ _ (by decide), va_up_ne _ _ (by decide), va_up_ne _ _ (by decide), va_up_ne _ _ (by decide), va_up_self]; rfl
      · rw [va_up_ne _ _ (by decide), va_up_ne _ _ (by decide), va_up_ne _ _ (by decide), va_up_self]
      · rw [va_up_ne _ _ (by decide), va_up_ne _ _ (by decide), va_up_self]
      · rw [va_up_ne _ _ (by decide), va_up_self]
      · rw [va_up_self]
      · intro f f0 f1; rw [va_up_ne _ _ (by omega), va_up_ne _ _ (by omega), va_up_ne _ _ (by omega), va_up_ne _ _ (by omega), va_up_ne _ _ (by omega), va_up_ne _ _ (by omega), va_up_ne _ _ (by omega), va_up_ne _ _ (by omega), va_up_ne _ _ (by omega)]
      · rw [upd_ne (by decide), upd_eq, a2.2.1.2, nI_1]
      · rw [upd_eq]
      · intro f hf; rw [upd_ne (by omega), upd_ne (by omega), upd_ne (by omega), mo_l3, upd_ne (by omega), upd_ne (by omega), upd_ne (by omega)]
  · have J1 : ∀ (F1 : Nat → Int32) (B1 : Nat → Nat → Int32), ((F1 = upd F 0 1 ∧ B1 = B) ∨ (F1 = upd (mo_l3 F (nI (la_dp dr dp nd)) (if p0 = 9 ∨ p0 = 10 then nI (la_al dr al nd) else la_a0 p0) (if p0 = 9 ∨ p0 = 10 then nI (mo_ut (la_en p0 (la_al dr al nd) dr al sz nd) (la_al dr al nd)) else mo_psz p0)) 0 1 ∧ B1 = va_up B 59 (la_os p0 (la_al dr al nd) dr al sz (B 59) nd))) → F1 0 = 1 ∧ JW hd ks n am (gw K am ks N S) F1 B1 := by
      rintro F1 B1 (⟨rfl, rfl⟩ | ⟨rfl, rfl⟩)
      · exact JW.e0 H0
      · exact ⟨upd_eq, JW.ex H0 (fun f hf => by rw [upd_ne (by omega), mo_l3, upd_ne (by omega), upd_ne (by omega), upd_ne (by omega)]) (fun f hf => by rw [va_up_ne _ _ (by omega)])⟩
    rintro E w ⟨rfl, ⟨rfl, c⟩ | ⟨rfl, kd, rfl, hkd, hhp, hnu, c⟩ | ⟨rfl, kd, rfl, hkd, hhp, hnu, hdp, hz, c⟩⟩
    · refine ⟨1, Or.inl ⟨rfl, rfl⟩, ?_⟩
      rintro x F1 B1 (⟨-, -, d⟩ | ⟨d, -⟩ | ⟨d, -⟩)
      · exact J1 F1 B1 d
      · exact absurd (ft_iff.mp (by rw [← a3.1.2.1]; exact d.1)) c
      · exact absurd (ft_iff.mp (by rw [← a3.1.2.1]; exact d.1)) c
    · refine ⟨1, Or.inl ⟨rfl, rfl⟩, ?_⟩
      rintro x F1 B1 (⟨-, -, d⟩ | ⟨d, -⟩ | ⟨d, -⟩)
      · exact J1 F1 B1 d
      · exact c.elim (fun z => absurd z d.2.1) (fun z => absurd z d.2.2)
      · exact c.elim (fun z => absurd z d.2.1) (fun z => absurd z d.2.2)
    · refine ⟨2, Or.inr ⟨rfl, rfl⟩, ?_⟩
      have hft : la_ft (nI kd) p1 (F 10) := by rw [a3.1.2.1]; exact ft_iff.mpr ⟨⟨nI_pos (by omega), fun z => absurd (n_lt 12 kd z) (by omega)⟩, hhp, hnu⟩
      rintro x F1 B1 (⟨d, -⟩ | ⟨-, -, -, rfl, rfl⟩ | ⟨-, d, -⟩)
      · exact absurd ⟨hft, hdp, hz⟩ d
      · exact ⟨upd_eq, JW.ex H0 (fun f hf => by rw [upd_ne (by omega), mo_l3, upd_ne (by omega), upd_ne (by omega), upd_ne (by omega)]) (fun f hf => by rw [va_up_ne _ _ (by omega)])⟩
      · omega
theorem st_le {x : Int32} (h : st4 x) (h2 : ¬ x = 2) (h3 : ¬ x = 3) : x ≤ 1 := by
  rcases h with rfl | rfl | rfl | rfl
  · decide
  · decide
  · exact absurd rfl h2
  · exact absurd rfl h3
theorem PVn.c {K : List Nat} {am N hd : Nat → Nat} {ks : Nat → ClassId} {S : gS} {F : Nat → Nat → Int32} {B : Nat → Nat → Int32} {i J ni Lv pl s : Nat} {x : rd_R} {S9 : gS} (h : PVn K am N hd ks S F B i J ni Lv pl s x S9) : ∃ c, S9.1 14 0 = .int c := by
  obtain ⟨S1, B1, fr, ln, c, p', z', kp, hE, t0, -⟩ := h
  exact ⟨c, by rw [hE.1.1 14 0 (by omega) (fun w => absurd w.1 (by decide)) (fun w => absurd w.1 (by decide))]; exact t0⟩
theorem jn_call {l : Launch} {D : va_G} {tl : List (ClassId × FieldType)} {Z : (Nat → Prop) → State → Heap → Prop} {ks : Nat → ClassId} {bm : Nat → Nat} {k n : Nat} {hd : Nat → Nat} {K : List Nat} {am N : Nat → Nat} {S : gS} {F : Nat → Int32} {B : Nat → Nat → Int32} (hl : l.stackTraces = false) (hzx : hc_ZX Z) (hZ : ev_Zok Z) (hNw : hc_ZN Z) (hAO : hc_AO Z) (ta tz : Nat) (hST : hc_ST Z ta tz) (hZ9 : ho_Z Z hd) (hDi : ho_D hd) (hk : 20 < k) (hn : n < 1000) (H : RX hd n K am N S F B) (p0 : Int32) (p1 : Int32) (p2 : Int32) : ∃ Q X P, MX (hc_π l D ks tl Z) (m_hc_call k 2 9) 2 9 [.ref (am 0), .int p0, .int p1, .int p2] (gw K am ks N S) Q X ∧ MT (hc_π l D ks tl Z) m_call 0 0 [.ref (bm 60), .int p0, .int p1, .int p2] (mo_W mo_ci bm (ks 0) (ks 1) F B) (mo_qi bm (ks 0) (ks 1) P) ∧ JI hd ks n K am N S cd_call P Q X := by
  have H0 := H
  obtain ⟨NT, ni, nf, nd, Lv, Md, ct, dp, pt, sz, al, dr, hm, ar, rs, ru, cf, hp, hM, h⟩ := H
  have h9 := h
  obtain ⟨a1, a2, a3, a4, ⟨a5, a6⟩, a7, a8, a9, a10⟩ := h9
  have hn6 := a4.1.2.2
  have h32 := a2.1.1
  have hLv6 := a9.1.2.2
  have hnd6 := a3.1.2.2
  have hnf12 := a8.1.2.2
  have hL0 : F 29 = 0 ↔ Lv = 0 := by rw [a9.1.2.1]; exact n_z (by have := a9.1.2.2; omega)
  have hL5 : ∀ j, j < 6 → ¬ B 15 j = 1 → Lv < 6 := rS.room a9 hn6
  have hru6 : ∀ J, J < ni → ¬ B 15 J = 1 → 0 < Lv → ru (Lv - 1) ≠ J := fun J _ h1 h0 e => h1 (by rw [← e]; exact (a9.2.1 (Lv - 1) (by omega)).2.2.2.1)
  have hftR := ft_ok a2.2.2.1
  have hftN : ∀ t u, ft_R B NT ct dp pt t u → t < NT ∧ u < NT := fun t u h => ⟨h.1, h.2.1⟩
  refine ⟨_, _, _, hx_hc_call p0 p1 p2 hl hzx hZ a1.1 hn6 a4.1.1 (fun i hi => ⟨(a4.2.1 i hi).1, (a4.2.1 i hi).2.1⟩) a2.1 a2.2.1.1 a9.1.1 a9.1.2.2 (fun k9 hk9 => ⟨(a9.2.1 k9 hk9).1, (a9.2.1 k9 hk9).2.2.1⟩) hd hZ9 hDi a5.1 (fun x hx => (a5.2 x hx).1) a8.1.2.2 a8.1.1 (fun f hf => (a8.2 f hf).1) (sz := sz) (al := al) (hp := hp) (Rf := (ft_R B NT ct dp pt)) a2.2.2.1 (fun i hi => (a4.2.1 i hi).2.2.2.1) (fun k9 hk9 => (a9.2.1 k9 hk9).2.1) (fun t u ht hu hb => ft_of a2.2.2.1 ht hu hb) (Fq (upd F 0 0)) (fun m => Fq_0 _ m) hNw (fun u hu => ⟨(a2.2.2.2.2.1.1 u hu).1, (a2.2.2.2.2.1.1 u hu).2.1, (a2.2.2.2.2.1.1 u hu).2.2.1, (a2.2.2.2.2.1.1 u hu).2.2.2.1, (a2.2.2.2.2.1.1 u hu).2.2.2.2.1⟩) (fun j hj => (a4.2.2.1 j hj).2) (fun j hj h1 => hL5 j (by omega) h1) (fun J h0 hJ h1 => h.ph h0 hJ (hru6 J hJ h1 h0) hftR hftN) (by omega), mt_call hZ p0 p1 p2 NT nf Lv ct dp pt sz al hm ar rs ru hp ⟨a2.2.1.2, a8.1.2.1, a9.1.2.1, a2.2.2.1, a2.2.2.2.1, a2.2.2.2.2.1, ⟨a8.1.2.2, fun f hf => ⟨(a8.2 f hf).2.1, by have := (a8.2 f hf).1.2.2.2.2.2.1; omega, (a8.2 f hf).2.2.1, (a8.2 f hf).1.2.2.2.2.2.2.1, (a8.2 f hf).2.2.2.1, (a8.2 f hf).1.2.2.2.2.2.2.2⟩⟩, a4.2.2.2.1, fun y _ hu => by obtain ⟨r, hr, e⟩ := a6.2.1 y hu; rw [e]; exact vp_in_nI (by omega) (by decide), a4.2.2.1, a9.1.2.2, fun k9 hk9 => ⟨(a9.2.1 k9 hk9).2.1, by have := (a9.2.1 k9 hk9).2.2.1; omega⟩⟩ (fun j hj _ h1 => hL5 j hj h1), ?_, ?_⟩
  · rintro r w ⟨hLp, ff, tt, hff, htt, rfl, rfl, hnb, hc⟩
    have nz : ¬ F 29 = 0 := fun z => by have := hL0.mp z; omega
    have hJ := (a8.2 ff hff).1.2.2.2.2.2.1
    have hA := (a8.2 ff hff).1.2.2.2.2.2.2.1
    rcases hc with ⟨h15, rfl, S9, rfl, hE⟩ | ⟨n2, n3, n1, S9, hc⟩
    · refine ⟨_, rfl, ?_⟩
      rintro x F1 B1 (⟨c, -⟩ | ⟨-, c, -⟩ | ⟨f', t', e1, e2, e3, e4, -, c, -⟩ | ⟨f', t', e1, e2, e3, e4, -, -, c, -⟩ | ⟨f', t', e1, e2, e3, e4, -, -, -, rfl, w, B2, hs, rfl, rfl⟩ | ⟨f', t', e1, e2, e3, e4, -, -, -, c, -⟩)
      · exact absurd c nz
      · exact absurd ⟨jr a8.1.2.1 hff (by omega), jr a2.2.1.2 htt (by omega)⟩ c
      · obtain rfl := je e3 (by omega) (by omega)
        obtain rfl := je e4 (by omega) (by omega)
        exact absurd hnb c
      · obtain rfl := je e3 (by omega) (by omega)
        rw [h15] at c; exact absurd (by decide) c
      · refine ⟨rfl, rfl, _, _, _, _, rfl, rfl, NT, ni, nf, nd, 0, Md, ct, dp, pt, sz, al, dr, hm, ar, rs, ru, cf, fun _ => 128, by omega, ?_⟩
        exact h.trap0 (a9.2.1 (Lv - 1) (by omega)).2.2.1 hE (fun f hf => hs.1 f (Or.inl hf)) (fun f hf => hs.1 f (Or.inr hf)) (fun f hf => by rw [upd_ne (by omega), upd_ne (by omega), upd_ne (by omega)])
      · obtain rfl := je e3 (by omega) (by omega)
        exact absurd h15 c
    · have hr := ft_of a2.2.2.1 htt hA hnb
      have hiJ := hru6 (hm ff) hJ n1 hLp
      have up0 : ∀ {f : Nat} {w : Int32}, f ≠ 36 → upd (upd F 36 w) 0 0 f = upd F 0 0 f := fun {f w} f1 => by
        by_cases e : f = 0
        · rw [e, upd_eq, upd_eq]
        · rw [upd_ne e, upd_ne e, upd_ne f1]
      rcases hc with ⟨rfl, rfl, hPn⟩ | ⟨rfl, rfl, hPo⟩
      · obtain ⟨c9, e9⟩ := hPn.c
        refine ⟨c9, by rw [e9], ?_⟩
        rintro x F1 B1 (⟨c, -⟩ | ⟨-, c, -⟩ | ⟨f', t', e1, e2, e3, e4, -, c, -⟩ | ⟨f', t', e1, e2, e3, e4, -, -, c, -⟩ | ⟨f', t', e1, e2, e3, e4, -, -, c, -⟩ | ⟨f', t', e1, e2, e3, e4, -, -, -, -, w, B0, hs, hq⟩)
        · exact absurd c nz
        · exact absurd ⟨jr a8.1.2.1 hff (by omega), jr a2.2.1.2 htt (by omega)⟩ c
        · obtain rfl := je e3 (by omega) (by omega)
          obtain rfl := je e4 (by omega) (by omega)
          exact absurd hnb c
        · obtain rfl := je e3 (by omega) (by omega)
          exact absurd (st_le (a4.2.2.2.2.2 (hm ff)).2 n2 n3) c
        · obtain rfl := je e3 (by omega) (by omega)
          exact absurd c n1
        · obtain rfl := je e3 (by omega) (by omega)
          obtain rfl := je e4 (by omega) (by omega)
          obtain ⟨y, F2, B2, hps, hq⟩ := hq
          obtain ⟨KF, KB, PN, PO⟩ := h.pass (ks := ks) (Fc := Fq (upd F 0 0)) hLp hJ hiJ hftR hftN hr (fun f hf => by rw [upd_ne (by omega), upd_ne (by omega), upd_ne (by omega)]) (Fq_c (fun f f1 f2 => by rw [upd_ne f2]; exact up0 f1)).symm (fun k hk => hs.1 k hk) hps
          obtain ⟨g1, g2, g3⟩ := PN S9 hPn
          rcases hq with ⟨d, -⟩ | ⟨-, rfl, Fr, z, z1, z2, z3, z4, rfl, rfl⟩
          · exact absurd d g1
          · refine ⟨(show F2 0 = 0 from KF 0 (by decide) (by decide) (by decide) (by decide) (by decide)), ?_, _, _, _, _, rfl, rfl, NT, ni, nf, nd, 0, Md, ct, dp, pt, sz, al, dr, hm, ar, rs, ru, cf, fun _ => 128, by omega, g3 Fr z z1 z2 z3 z4⟩
            exact Value.int.inj (g2.symm.trans e9)
      · refine ⟨_, rfl, ?_⟩
        rintro x F1 B1 (⟨c, -⟩ | ⟨-, c, -⟩ | ⟨f', t', e1, e2, e3, e4, -, c, -⟩ | ⟨f', t', e1, e2, e3, e4, -, -, c, -⟩ | ⟨f', t', e1, e2, e3, e4, -, -, c, -⟩ | ⟨f', t', e1, e2, e3, e4, -, -, -, -, w, B0, hs, hq⟩)
        · exact absurd c nz
        · exact absurd ⟨jr a8.1.2.1 hff (by omega), jr a2.2.1.2 htt (by omega)⟩ c
        · obtain rfl := je e3 (by omega) (by omega)
          obtain rfl := je e4 (by omega) (by omega)
          exact absurd hnb c
        · obtain rfl := je e3 (by omega) (by omega)
          exact absurd (st_le (a4.2.2.2.2.2 (hm ff)).2 n2 n3) c
        · obtain rfl := je e3 (by omega) (by omega)
          exact absurd c n1
        · obtain rfl := je e3 (by omega) (by omega)
          obtain rfl := je e4 (by omega) (by omega)
          obtain ⟨y, F2, B2, hps, hq⟩ := hq
          obtain ⟨KF, KB, PN, PO⟩ := h.pass (ks := ks) (Fc := Fq (upd F 0 0)) hLp hJ hiJ hftR hftN hr (fun f hf => by rw [upd_ne (by omega), upd_ne (by omega), upd_ne (by omega)]) (Fq_c (fun f f1 f2 => by rw [upd_ne f2]; exact up0 f1)).symm (fun k hk => hs.1 k hk) hps
          obtain ⟨g1, g2, ⟨hpn, g3⟩, q, g4, g5, -⟩ := PO S9 hPo
          rcases hq with ⟨-, rfl, rfl, rfl⟩ | ⟨d, -⟩
          · have e29 : F2 29 = nI Lv := g3.2.2.2.2.2.2.2.1.1.2.1
            refine ⟨(upd_ne (by decide)).trans (show F2 0 = 0 from KF 0 (by decide) (by decide) (by decide) (by decide) (by decide)), rfl, _, _, _, _, rfl, rfl, NT, ni, nf, nd, Lv + 1, Md, ct, dp, pt, sz, al, dr, hm, ar, rs, va_up ru Lv (hm ff), va_up cf Lv ff, va_up hp (hm ff) hpn, by omega, ?_⟩
            subst g2
            refine g3.push (ff := ff) hJ (hL5 _ (by omega) n1) ?_ (fun _ => ⟨rfl, hff⟩) (fun f f1 f2 f3 f4 => ?_) ?_ ?_ ?_ ?_ (by rw [upd_eq, e29, nI_1]) (fun f hf => upd_ne (by omega)) ?_
            · rw [KB 15 (by unfold ps_un; omega)]; exact n1
            · rw [va_up_ne _ _ f1, va_up_ne _ _ f4, va_up_ne _ _ f3, va_up_ne _ _ f2]
            · rw [va_up_ne _ _ (by decide), va_up_ne _ _ (by decide), va_up_ne _ _ (by decide), va_up_self]
            · rw [va_up_ne _ _ (by decide), va_up_ne _ _ (by decide), va_up_self]
            · rw [va_up_ne _ _ (by decide), va_up_self]
            · rw [va_up_self]
            · exact GH.push a6 g5 hn6 hLp (a9.2.1 (Lv - 1) (by omega)).2.2.1 hJ (fun f f1 f2 => by rw [va_up_ne _ _ (by omega), va_up_ne _ _ (by omega), va_up_ne _ _ (by omega), va_up_ne _ _ (by omega)]) (by rw [va_up_ne _ _ (by omega), va_up_ne _ _ (by omega), va_up_ne _ _ (by omega), va_up_ne _ _ (by omega)]; exact KB 24 (by unfold ps_un; omega))
          · rw [g1] at d; exact absurd (by decide) d
  · rintro E w ⟨rfl, ⟨rfl, c⟩ | ⟨rfl, c0, c⟩ | ⟨rfl, c0, ff, tt, hff, htt, rfl, rfl, c⟩ | ⟨rfl, c0, ff, tt, hff, htt, rfl, rfl, hnb, c⟩⟩
    · refine ⟨1, Or.inl ⟨rfl, rfl⟩, ?_⟩
      have z := hL0.mpr c
      rintro x F1 B1 (⟨-, -, rfl, hs⟩ | ⟨d, -⟩ | ⟨f', t', e1, e2, e3, e4, d, -⟩ | ⟨f', t', e1, e2, e3, e4, d, -⟩ | ⟨f', t', e1, e2, e3, e4, d, -⟩ | ⟨f', t', e1, e2, e3, e4, d, -⟩)
      · exact JW.e2 H0 hs
      all_goals exact absurd z d
    · refine ⟨2, Or.inr (Or.inl ⟨rfl, rfl⟩), ?_⟩
      rintro x F1 B1 (⟨d, -⟩ | ⟨-, -, -, rfl, hs⟩ | ⟨f', t', e1, e2, rfl, rfl, -⟩ | ⟨f', t', e1, e2, rfl, rfl, -⟩ | ⟨f', t', e1, e2, rfl, rfl, -⟩ | ⟨f', t', e1, e2, rfl, rfl, -⟩)
      · have := hL0.mp d; omega
      · exact JW.e2 H0 hs
      all_goals exact absurd ⟨jr rfl e1 (by omega), jr rfl e2 (by omega)⟩ c
    · refine ⟨3, Or.inr (Or.inr (Or.inl ⟨rfl, rfl⟩)), ?_⟩
      rintro x F1 B1 (⟨d, -⟩ | ⟨-, d, -⟩ | ⟨f', t', e1, e2, e3, e4, -, -, -, ⟨w, rfl⟩, hs⟩ | ⟨f', t', e1, e2, e3, e4, -, d, -⟩ | ⟨f', t', e1, e2, e3, e4, -, d, -⟩ | ⟨f', t', e1, e2, e3, e4, -, d, -⟩)
      · have := hL0.mp d; omega
      · exact absurd ⟨jr a8.1.2.1 hff (by omega), jr a2.2.1.2 htt (by omega)⟩ d
      · exact JW.e1 H0 hs
      all_goals
        obtain rfl := je e3 (by omega) (by omega)
        obtain rfl := je e4 (by omega) (by omega)
        exact absurd d c
    · refine ⟨4, Or.inr (Or.inr (Or.inr ⟨rfl, rfl⟩)), ?_⟩
      rintro x F1 B1 (⟨d, -⟩ | ⟨-, d, -⟩ | ⟨f', t', e1, e2, e3, e4, -, d, -⟩ | ⟨f', t', e1, e2, e3, e4, -, -, -, -, ⟨w, rfl⟩, hs⟩ | ⟨f', t', e1, e2, e3, e4, -, -, d, -⟩ | ⟨f', t', e1, e2, e3, e4, -, -, d, -⟩)
      · have := hL0.mp d; omega
      · exact absurd ⟨jr a8.1.2.1 hff (by omega), jr a2.2.1.2 htt (by omega)⟩ d
      · obtain rfl := je e3 (by omega) (by omega)
        obtain rfl := je e4 (by omega) (by omega)
        exact absurd hnb d
      · exact JW.e1 H0 hs
      · obtain rfl := je e3 (by omega) (by omega)
        rw [d] at c
        exact c.elim (fun z => absurd z (by decide)) (fun z => absurd z (by decide))
      · obtain rfl := je e3 (by omega) (by omega)
        rcases c with c | c <;> rw [c] at d <;> exact absurd d (by decide)
theorem jn_back {l : Launch} {D : va_G} {tl : List (ClassId × FieldType)} {Z : (Nat → Prop) → State → Heap → Prop} {ks : Nat → ClassId} {bm : Nat → Nat} {k n : Nat} {hd : Nat → Nat} {K : List Nat} {am N : Nat → Nat} {S : gS} {F : Nat → Int32} {B : Nat → Nat → Int32} (hl : l.stackTraces = false) (hzx : hc_ZX Z) (hZ : ev_Zok Z) (hNw : hc_ZN Z) (hAO : hc_AO Z) (ta tz : Nat) (hST : hc_ST Z ta tz) (hZ9 : ho_Z Z hd) (hDi : ho_D hd) (hk : 20 < k) (hn : n < 1000) (H : RX hd n K am N S F B) (p0 : Int32) (p1 : Int32) : ∃ Q X P, MX (hc_π l D ks tl Z) (m_hc_back k 2 9) 2 9 [.ref (am 0), .int p0, .int p1] (gw K am ks N S) Q X ∧ MT (hc_π l D ks tl Z) m_back 0 0 [.ref (bm 60), .int p0, .int p1] (mo_W mo_ci bm (ks 0) (ks 1) F B) (mo_qi bm (ks 0) (ks 1) P) ∧ JI hd ks n K am N S cd_back P Q X := by
  have H0 := H
  obtain ⟨NT, ni, nf, nd, Lv, Md, ct, dp, pt, sz, al, dr, hm, ar, rs, ru, cf, hp, hM, h⟩ := H
  have h9 := h
  obtain ⟨a1, a2, a3, a4, ⟨a5, a6⟩, a7, a8, a9, a10⟩ := h9
  have hn6 := a4.1.2.2
  have h32 := a2.1.1
  have hLv6 := a9.1.2.2
  have hnd6 := a3.1.2.2
  have hnf12 := a8.1.2.2
  have hL0 : F 29 = 0 ↔ Lv = 0 := by rw [a9.1.2.1]; exact n_z (by have := a9.1.2.2; omega)
  have hru2 : 2 ≤ Lv → ru (Lv - 1) ≠ ru (Lv - 2) := fun h2 e => a9.2.2.2.1 (Lv - 2) (Lv - 1) (by omega) (by omega) e.symm
  have hftR := ft_ok a2.2.2.1
  have hftN : ∀ t u, ft_R B NT ct dp pt t u → t < NT ∧ u < NT := fun t u h => ⟨h.1, h.2.1⟩
  have hcf : 2 ≤ Lv → cf (Lv - 1) < nf := fun h2 => (a9.2.2.1 (Lv - 1) (by omega) (by omega)).2.2
  have hEnd : 2 ≤ Lv → ∀ tt q S9, tt < NT → nb_v (nb_r B ct pt 5 tt (rs (cf (Lv - 1))) 0) = 0 → rd_i (B 4) ct (ru (Lv - 1)) 5 tt (rs (cf (Lv - 1))) p1 (-1) 0 0 B = .inr q → PVo am hd S (Fq (upd F 0 0)) (ru (Lv - 1)) (ru (Lv - 2)) ni (mo_ut (hp (ru (Lv - 2))) (al (rs (cf (Lv - 1))))) (sz (rs (cf (Lv - 1)))) (rd_i (B 4) ct (ru (Lv - 1)) 5 tt (rs (cf (Lv - 1))) p1 (-1) 0 0 B) S9 → HA am hd S9 (pe_B True (PVw (Fq (upd F 0 0)) (ru (Lv - 1)) (ru (Lv - 2)) (mo_ut (hp (ru (Lv - 2))) (al (rs (cf (Lv - 1))))) (sz (rs (cf (Lv - 1)))) q).2 102) fr0 (lnB (pe_B True (PVw (Fq (upd F 0 0)) (ru (Lv - 1)) (ru (Lv - 2)) (mo_ut (hp (ru (Lv - 2))) (al (rs (cf (Lv - 1))))) (sz (rs (cf (Lv - 1)))) q).2 102)) ni := fun h2 tt q S9 htt hnb hq hPo => h.hend (by omega) (a9.2.1 (Lv - 2) (by omega)).2.2.1 (hru2 h2) hftR hftN (ft_of a2.2.2.1 htt (a8.2 _ (hcf h2)).1.2.2.2.2.2.2.2 hnb) hq hPo
  refine ⟨_, _, _, hx_hc_back p0 p1 hl hzx hZ a1.1 hn6 a4.1.1 (fun i hi => ⟨(a4.2.1 i hi).1, (a4.2.1 i hi).2.1⟩) a2.1 a2.2.1.1 a9.1.1 a9.1.2.2 (fun k9 hk9 => ⟨(a9.2.1 k9 hk9).1, (a9.2.1 k9 hk9).2.2.1⟩) hd hZ9 hDi a5.1 (fun x hx => (a5.2 x hx).1) a8.1.2.2 a8.1.1 (fun f hf => (a8.2 f hf).1) (sz := sz) (al := al) (hp := hp) (Rf := (ft_R B NT ct dp pt)) a2.2.2.1 (fun i hi => (a4.2.1 i hi).2.2.2.1) (fun k9 hk9 => (a9.2.1 k9 hk9).2.1) (fun t u ht hu hb => ft_of a2.2.2.1 ht hu hb) (Fq (upd F 0 0)) (fun m => Fq_0 _ m) hNw (cf := cf) (fun k9 k1 k2 => ⟨(a9.2.2.1 k9 k1 k2).1, (a9.2.2.1 k9 k1 k2).2.2⟩) (fun u hu => ⟨(a2.2.2.2.2.1.1 u hu).1, (a2.2.2.2.2.1.1 u hu).2.1, (a2.2.2.2.2.1.1 u hu).2.2.1, (a2.2.2.2.2.1.1 u hu).2.2.2.1, (a2.2.2.2.2.1.1 u hu).2.2.2.2.1⟩) (fun j hj => (a4.2.2.1 j hj).2) (fun h2 => h.ph (by omega) (a9.2.1 (Lv - 2) (by omega)).2.2.1 (hru2 h2) hftR hftN) hEnd (by omega), mt_back hZ p0 p1 NT nf Lv ct dp pt sz al hm ar rs ru hp cf ⟨a2.2.1.2, a8.1.2.1, a9.1.2.1, a2.2.2.1, a2.2.2.2.1, a2.2.2.2.2.1, ⟨a8.1.2.2, fun f hf => ⟨(a8.2 f hf).2.1, by have := (a8.2 f hf).1.2.2.2.2.2.1; omega, (a8.2 f hf).2.2.1, (a8.2 f hf).1.2.2.2.2.2.2.1, (a8.2 f hf).2.2.2.1, (a8.2 f hf).1.2.2.2.2.2.2.2⟩⟩, a4.2.2.2.1, fun y _ hu => by obtain ⟨r, hr, e⟩ := a6.2.1 y hu; rw [e]; exact vp_in_nI (by omega) (by decide), a4.2.2.1, a9.1.2.2, fun k9 hk9 => ⟨(a9.2.1 k9 hk9).2.1, by have := (a9.2.1 k9 hk9).2.2.1; omega⟩⟩ (fun k9 k1 k2 => ⟨(a9.2.2.1 k9 k1 k2).2.1, (a9.2.2.1 k9 k1 k2).2.2⟩), ?_, ?_⟩
  · rintro r w ⟨h2, tt, htt, rfl, hnb, S9, hc⟩
    have hLp : 0 < Lv := by omega
    have hJ := (a9.2.1 (Lv - 2) (by omega)).2.2.1
    have hU := (a8.2 _ (hcf h2)).1.2.2.2.2.2.2.2
    have hr := ft_of a2.2.2.1 htt hU hnb
    have hiJ := hru2 h2
    have up0 : ∀ {f : Nat} {w : Int32}, f ≠ 36 → upd (upd F 36 w) 0 0 f = upd F 0 0 f := fun {f w} f1 => by
      by_cases e : f = 0
      · rw [e, upd_eq, upd_eq]
      · rw [upd_ne e, upd_ne e, upd_ne f1]
    rcases hc with ⟨rfl, rfl, hPn⟩ | ⟨rfl, S10, q, hq9, hPo, hk10, hA10, rfl⟩
    · obtain ⟨c9, e9⟩ := hPn.c
      refine ⟨c9, by rw [e9], ?_⟩
      rintro x F1 B1 (⟨c, -⟩ | ⟨-, c, -⟩ | ⟨t', e1, e2, -, c, -⟩ | ⟨t', e1, e2, -, -, w, B0, hs, hq⟩)
      · exact absurd h2 c
      · exact absurd (jr a2.2.1.2 htt (by omega)) c
      · obtain rfl := je e2 (by omega) (by omega)
        exact absurd hnb c
      · obtain rfl := je e2 (by omega) (by omega)
        obtain ⟨y, F2, B2, hps, hq⟩ := hq
        obtain ⟨KF, KB, PN, PO⟩ := h.pass (ks := ks) (Fc := Fq (upd F 0 0)) hLp hJ hiJ hftR hftN hr (fun f hf => by rw [upd_ne (by omega), upd_ne (by omega)]) (Fq_c (fun f f1 f2 => up0 f1)).symm (fun k hk => hs.1 k hk) hps
        obtain ⟨g1, g2, g3⟩ := PN S9 hPn
        rcases hq with ⟨d, -⟩ | ⟨-, rfl, Fr, z, z1, z2, z3, z4, rfl, rfl⟩
        · exact absurd d g1
        · refine ⟨(show F2 0 = 0 from KF 0 (by decide) (by decide) (by decide) (by decide) (by decide)), ?_, _, _, _, _, rfl, rfl, NT, ni, nf, nd, 0, Md, ct, dp, pt, sz, al, dr, hm, ar, rs, ru, cf, fun _ => 128, by omega, g3 Fr z z1 z2 z3 z4⟩
          exact Value.int.inj (g2.symm.trans e9)
    · refine ⟨_, rfl, ?_⟩
      rintro x F1 B1 (⟨c, -⟩ | ⟨-, c, -⟩ | ⟨t', e1, e2, -, c, -⟩ | ⟨t', e1, e2, -, -, w, B0, hs, hq⟩)
      · exact absurd h2 c
      · exact absurd (jr a2.2.1.2 htt (by omega)) c
      · obtain rfl := je e2 (by omega) (by omega)
        exact absurd hnb c
      · obtain rfl := je e2 (by omega) (by omega)
        obtain ⟨y, F2, B2, hps, hq⟩ := hq
        obtain ⟨KF, KB, PN, PO⟩ := h.pass (ks := ks) (Fc := Fq (upd F 0 0)) hLp hJ hiJ hftR hftN hr (fun f hf => by rw [upd_ne (by omega), upd_ne (by omega)]) (Fq_c (fun f f1 f2 => up0 f1)).symm (fun k hk => hs.1 k hk) hps
        obtain ⟨g1, g2, ⟨hpn, g3⟩, q', g4, g5, g6⟩ := PO S9 hPo
        have eq : q' = q := Sum.inr.inj (g4.symm.trans hq9)
        subst eq
        have nl := no_lend a2.2.2.1 a2.2.2.2.1 a4.2.2.2.1 (by have := (a9.2.1 (Lv - 1) (by omega)).2.2.1; omega) ⟨hr, 5, (a2.2.2.1.2.1 _ hU).2.2.2, (a8.2 _ (hcf h2)).2.2.2.2⟩ hq9
        rcases hq with ⟨-, rfl, rfl, rfl⟩ | ⟨d, -⟩
        · subst g2
          have e29 : F2 29 = nI Lv := g3.2.2.2.2.2.2.2.1.1.2.1
          have g7 := g3.hk (B' := va_up B2 16 (bk_u (B2 16) (B2 18) (17 * ru (Lv - 1)) 16)) hk10 (hA10.b (fun f hf => ?_)) (fun f hf => va_up_ne _ _ hf)
          · refine ⟨(upd_ne (by decide)).trans (show F2 0 = 0 from KF 0 (by decide) (by decide) (by decide) (by decide) (by decide)), rfl, _, _, _, _, rfl, rfl, NT, ni, nf, nd, Lv - 1, Md, ct, dp, pt, sz, al, dr, hm, ar, rs, ru, cf, va_up (va_up hp (ru (Lv - 2)) hpn) (ru (Lv - 1)) 128, by omega, ?_⟩
            refine g7.pop h2 rfl (fun f f1 f2 f3 => ?_) ?_ ?_ ?_ (by rw [upd_eq]) (fun f hf => upd_ne (by omega)) ?_
            · rw [va_up_ne _ _ f3, va_up_ne _ _ f1, va_up_ne _ _ f2]
            · rw [va_up_ne _ _ (by decide), va_up_self, va_up_ne _ _ (by decide)]
            · rw [va_up_ne _ _ (by decide), va_up_ne _ _ (by decide), va_up_self, va_up_ne _ _ (by decide)]
            · rw [va_up_self, va_up_ne _ _ (by decide)]
            · exact GH.back a6 g5 nl hn6 h2 rfl (fun k9 hk9 e => a9.2.2.2.1 k9 (Lv - 1) (by omega) (by omega) e) hJ (by rw [va_up_ne _ _ (by decide), va_up_ne _ _ (by decide), va_up_ne _ _ (by decide), va_up_self]) (fun f f1 f2 => by rw [va_up_ne _ _ (by omega), va_up_ne _ _ (by omega), va_up_ne _ _ (by omega), va_up_ne _ _ (by omega)]) (by rw [va_up_ne _ _ (by decide), va_up_ne _ _ (by decide), va_up_ne _ _ (by decide), va_up_ne _ _ (by decide)]; exact KB 24 (by unfold ps_un; omega))
          · by_cases e : f = 16
            · subst e
              rw [va_up_self, el_16, g6 16 (by omega), g6 18 (by omega)]
            · rw [va_up_ne _ _ e, el_B, va_up_ne _ _ e]
              exact g6 f (by omega)
        · rw [g1] at d; exact absurd (by decide) d
  · rintro E w ⟨rfl, ⟨rfl, c⟩ | ⟨rfl, c0, c⟩ | ⟨rfl, c0, tt, htt, rfl, c⟩⟩
    · refine ⟨1, Or.inl ⟨rfl, rfl⟩, ?_⟩
      rintro x F1 B1 (⟨-, -, rfl, hs⟩ | ⟨d, -⟩ | ⟨t', e1, e2, d, -⟩ | ⟨t', e1, e2, d, -⟩)
      · exact JW.e2 H0 hs
      all_goals exact absurd d c
    · refine ⟨2, Or.inr (Or.inl ⟨rfl, rfl⟩), ?_⟩
      rintro x F1 B1 (⟨d, -⟩ | ⟨-, -, -, rfl, hs⟩ | ⟨t', e1, rfl, -⟩ | ⟨t', e1, rfl, -⟩)
      · exact absurd c0 d
      · exact JW.e2 H0 hs
      all_goals exact absurd (jr rfl e1 (by omega)) c
    · refine ⟨3, Or.inr (Or.inr ⟨rfl, rfl⟩), ?_⟩
      rintro x F1 B1 (⟨d, -⟩ | ⟨-, d, -⟩ | ⟨t', e1, e2, -, -, -, ⟨w, rfl⟩, hs⟩ | ⟨t', e1, e2, -, d, -⟩)
      · exact absurd c0 d
      · exact absurd (jr a2.2.1.2 htt (by omega)) d
      · exact JW.e1 H0 hs
      · obtain rfl := je e2 (by omega) (by omega)
        exact absurd d c
