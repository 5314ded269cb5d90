/-! a call on both sides: the same answer, the relation kept -/
def RX (hd : Nat → Nat) (n : Nat) (K : List Nat) (am N : Nat → Nat) (S : gS) (F : Nat → Int32) (B : Nat → Nat → Int32) : Prop := ∃ (NT ni nf nd Lv Md : Nat) (ct dp : Nat → Nat) (pt : Nat → Nat → Nat) (sz al dr hm ar rs ru cf hp : Nat → Nat), Md ≤ n ∧ RR hd K am N S F B NT ni nf nd Lv Md ct dp pt sz al dr hm ar rs ru cf hp
def JW (hd : Nat → Nat) (ks : Nat → ClassId) (n : Nat) (am : Nat → Nat) (w : va_W) (F1 : Nat → Int32) (B1 : Nat → Nat → Int32) : Prop := ∃ K' am' N' S', w = gw K' am' ks N' S' ∧ am' 0 = am 0 ∧ RX hd (n + 1) K' am' N' S' F1 B1
def JX (hd : Nat → Nat) (ks : Nat → ClassId) (n : Nat) (K : List Nat) (am N : Nat → Nat) (S : gS) (cd : String → Int32 → Prop) (P : Int32 → (Nat → Int32) → (Nat → Nat → Int32) → Prop) (X : String → va_W → Prop) : Prop := ∀ E w, X E w → ∃ c, cd E c ∧ ∀ x F1 B1, P x F1 B1 → F1 0 = c ∧ JW hd ks n am w F1 B1
/-- both answer a number -/
def JI (hd : Nat → Nat) (ks : Nat → ClassId) (n : Nat) (K : List Nat) (am N : Nat → Nat) (S : gS) (cd : String → Int32 → Prop) (P : Int32 → (Nat → Int32) → (Nat → Nat → Int32) → Prop) (Q : Option Value → va_W → Prop) (X : String → va_W → Prop) : Prop := (∀ r w, Q r w → ∃ y, r = some (.int y) ∧ ∀ x F1 B1, P x F1 B1 → F1 0 = 0 ∧ x = y ∧ JW hd ks n am w F1 B1) ∧ JX hd ks n K am N S cd P X
/-- both answer nothing -/
def JV (hd : Nat → Nat) (ks : Nat → ClassId) (n : Nat) (K : List Nat) (am N : Nat → Nat) (S : gS) (cd : String → Int32 → Prop) (P : (Nat → Int32) → (Nat → Nat → Int32) → Prop) (Q : Option Value → va_W → Prop) (X : String → va_W → Prop) : Prop := (∀ r w, Q r w → r = none ∧ ∀ F1 B1, P F1 B1 → F1 0 = 0 ∧ JW hd ks n am w F1 B1) ∧ JX hd ks n K am N S cd (fun _ => P) X
theorem jr {y : Int32} {N j : Nat} (hy : y = nI N) (h : j < N) (hN : N ≤ 1000) : ¬ nI j < 0 ∧ ¬ y ≤ nI j :=
  ⟨nI_pos (by omega), fun z => absurd (n_le N j z hy) (by omega)⟩
theorem je {a b : Nat} (h : nI a = nI b) (ha : a ≤ 100000) (hb : b ≤ 100000) : a = b := n_eq a b h
theorem RX.ex {hd : Nat → Nat} {n : Nat} {K : List Nat} {am N : Nat → Nat} {S : gS} {F F' : Nat → Int32} {B B' : Nat → Nat → Int32} (H : RX hd n K am N S F B) (hF : ∀ f, f = 1 ∨ f = 10 ∨ f = 12 ∨ f = 22 ∨ f = 25 ∨ f = 29 ∨ f = 33 ∨ f = 34 ∨ f = 35 → F' f = F f) (hB : ∀ f, f < 37 → B' f = B f) : RX hd (n + 1) K am N S F' B' := by
  obtain ⟨NT, ni, nf, nd, Lv, Md, ct, dp, pt, sz, al, dr, hm, ar, rs, ru, cf, hp, hM, h⟩ := H
  exact ⟨NT, ni, nf, nd, Lv, Md, ct, dp, pt, sz, al, dr, hm, ar, rs, ru, cf, hp, by omega, h.fb hF hB⟩
theorem JW.ex {hd : Nat → Nat} {ks : Nat → ClassId} {n : Nat} {K : List Nat} {am N : Nat → Nat} {S : gS} {F F' : Nat → Int32} {B B' : Nat → Nat → Int32} (H : RX hd n K am N S F B) (hF : ∀ f, f = 1 ∨ f = 10 ∨ f = 12 ∨ f = 22 ∨ f = 25 ∨ f = 29 ∨ f = 33 ∨ f = 34 ∨ f = 35 → F' f = F f) (hB : ∀ f, f < 37 → B' f = B f) : JW hd ks n am (gw K am ks N S) F' B' := ⟨K, am, N, S, rfl, rfl, H.ex hF hB⟩
theorem JW.e0 {hd : Nat → Nat} {ks : Nat → ClassId} {n : Nat} {K : List Nat} {am N : Nat → Nat} {S : gS} {F : Nat → Int32} {B : Nat → Nat → Int32} {c : Int32} (H : RX hd n K am N S F B) : upd F 0 c 0 = c ∧ JW hd ks n am (gw K am ks N S) (upd F 0 c) B := ⟨upd_eq, JW.ex H (fun f h => upd_ne (by omega)) (fun _ _ => rfl)⟩
theorem JW.e1 {hd : Nat → Nat} {ks : Nat → ClassId} {n : Nat} {K : List Nat} {am N : Nat → Nat} {S : gS} {F : Nat → Int32} {B B' : Nat → Nat → Int32} {c w : Int32} (H : RX hd n K am N S F B) (h : mo_sw 0 B B') : upd (upd F 36 w) 0 c 0 = c ∧ JW hd ks n am (gw K am ks N S) (upd (upd F 36 w) 0 c) B' := ⟨upd_eq, JW.ex H (fun f h1 => by rw [upd_ne (by omega), upd_ne (by omega)]) (fun f hf => h.1 f (Or.inl hf))⟩
theorem JW.e2 {hd : Nat → Nat} {ks : Nat → ClassId} {n : Nat} {K : List Nat} {am N : Nat → Nat} {S : gS} {F : Nat → Int32} {B B' : Nat → Nat → Int32} {c : Int32} (H : RX hd n K am N S F B) (h : mo_sw 0 B B') : upd F 0 c 0 = c ∧ JW hd ks n am (gw K am ks N S) (upd F 0 c) B' := ⟨upd_eq, JW.ex H (fun f h1 => upd_ne (by omega)) (fun f hf => h.1 f (Or.inl hf))⟩
theorem jr2 {j a : Nat} : 256 * nI j + nI a = nI (256 * j + a) := by
  rw [show (256 : Int32) = nI 256 from rfl]
  simp only [nI, Int32.ofNat_mul, Int32.ofNat_add]
def cd_part (E : String) (c : Int32) : Prop := (E = "java/lang/IllegalArgumentException" ∧ c = 1) ∨ (E = "java/lang/IllegalStateException" ∧ c = 2)
def cd_type (E : String) (c : Int32) : Prop := (E = "java/lang/IllegalArgumentException" ∧ c = 1) ∨ (E = "java/lang/IllegalStateException" ∧ c = 2)
def cd_layout (E : String) (c : Int32) : Prop := (E = "java/lang/IllegalArgumentException" ∧ c = 1) ∨ (E = "java/lang/IndexOutOfBoundsException" ∧ c = 2)
def cd_fits (E : String) (c : Int32) : Prop := (E = "java/lang/IllegalArgumentException" ∧ c = 1)
def cd_instance (E : String) (c : Int32) : Prop := (E = "java/lang/IllegalStateException" ∧ c = 1)
def cd_function (E : String) (c : Int32) : Prop := (E = "java/lang/IllegalArgumentException" ∧ c = 1) ∨ (E = "java/lang/UnsupportedOperationException" ∧ c = 2) ∨ (E = "java/lang/IllegalStateException" ∧ c = 3)
def cd_write (E : String) (c : Int32) : Prop := (E = "java/lang/IllegalArgumentException" ∧ c = 1) ∨ (E = "java/lang/IndexOutOfBoundsException" ∧ c = 2)
def cd_read (E : String) (c : Int32) : Prop := (E = "java/lang/IllegalArgumentException" ∧ c = 1) ∨ (E = "java/lang/IndexOutOfBoundsException" ∧ c = 2)
def cd_enter (E : String) (c : Int32) : Prop := (E = "java/lang/IllegalArgumentException" ∧ c = 1) ∨ (E = "java/lang/IllegalStateException" ∧ c = 2)
def cd_leave (E : String) (c : Int32) : Prop := (E = "java/lang/IllegalStateException" ∧ c = 1)
def cd_make (E : String) (c : Int32) : Prop := (E = "java/lang/IllegalStateException" ∧ c = 1) ∨ (E = "java/lang/IllegalArgumentException" ∧ c = 2) ∨ (E = "java/lang/UnsupportedOperationException" ∧ c = 3)
def cd_drop (E : String) (c : Int32) : Prop := (E = "java/lang/IllegalStateException" ∧ c = 1) ∨ (E = "java/util/NoSuchElementException" ∧ c = 2) ∨ (E = "java/lang/UnsupportedOperationException" ∧ c = 3)
def cd_handle (E : String) (c : Int32) : Prop := (E = "java/lang/IllegalArgumentException" ∧ c = 1)
def cd_call (E : String) (c : Int32) : Prop := (E = "java/lang/IllegalStateException" ∧ c = 1) ∨ (E = "java/lang/IllegalArgumentException" ∧ c = 2) ∨ (E = "java/lang/UnsupportedOperationException" ∧ c = 3) ∨ (E = "java/util/NoSuchElementException" ∧ c = 4)
def cd_back (E : String) (c : Int32) : Prop := (E = "java/lang/IllegalStateException" ∧ c = 1) ∨ (E = "java/lang/IllegalArgumentException" ∧ c = 2) ∨ (E = "java/lang/UnsupportedOperationException" ∧ c = 3)
def cd_trap (E : String) (c : Int32) : Prop := (E = "java/lang/IllegalStateException" ∧ c = 1)
def cd_state (E : String) (c : Int32) : Prop := (E = "java/lang/IllegalArgumentException" ∧ c = 1)
def cd_close (E : String) (c : Int32) : Prop := (E = "java/lang/IllegalArgumentException" ∧ c = 1) ∨ (E = "java/lang/IllegalStateException" ∧ c = 2)
def cd_resources (E : String) (c : Int32) : Prop := (E = "java/lang/IllegalArgumentException" ∧ c = 1)
def cd_latest (E : String) (c : Int32) : Prop := (E = "java/lang/IllegalArgumentException" ∧ c = 1)
theorem jn_part {l : Launch} {D : va_G} {tl : List (ClassId × FieldType)} {Z : (Nat → Prop) → State → Heap → Prop} {ks : Nat → ClassId} {bm : Nat → Nat} {k n : Nat} {hd : Nat → Nat} {K : List Nat} {am N : Nat → Nat} {S : gS} {F : Nat → Int32} {B : Nat → Nat → Int32} (hl : l.stackTraces = false) (hzx : hc_ZX Z) (hZ : ev_Zok Z) (hNw : hc_ZN Z) (hAO : hc_AO Z) (ta tz : Nat) (hST : hc_ST Z ta tz) (hZ9 : ho_Z Z hd) (hDi : ho_D hd) (hk : 20 < k) (hn : n < 1000) (H : RX hd n K am N S F B) (p0 : Int32) : ∃ Q X P, MX (hc_π l D ks tl Z) (m_hc_part k 1 6) 1 6 [.ref (am 0), .int p0] (gw K am ks N S) Q X ∧ MT (hc_π l D ks tl Z) m_part 0 0 [.ref (bm 60), .int p0] (mo_W mo_ci bm (ks 0) (ks 1) F B) (mo_qi bm (ks 0) (ks 1) P) ∧ JI hd ks n K am N S cd_part P Q X := by
  have H0 := H
  obtain ⟨NT, ni, nf, nd, Lv, Md, ct, dp, pt, sz, al, dr, hm, ar, rs, ru, cf, hp, hM, h⟩ := H
  have h9 := h
  obtain ⟨a1, a2, a3, a4, ⟨a5, a6⟩, a7, a8, a9, a10⟩ := h9
  have hn6 := a4.1.2.2
  have h32 := a2.1.1
  have hLv6 := a9.1.2.2
  have hnd6 := a3.1.2.2
  have hnf12 := a8.1.2.2
  refine ⟨_, _, _, hx_hc_part p0 hl hzx hZ a1.1 a2.1 a2.2.1.1 a3.1.1 a3.1.2.2 (by omega), mt_part hZ p0 (fun q => by rw [a3.1.2.1]; exact vp_in_nI (by have := a3.1.2.2; have : nd ≠ 6 := fun w => q (by rw [a3.1.2.1, w]; rfl); omega) (by decide)), ?_, ?_⟩
  · rintro r w ⟨j, hj, rfl, hnd, rfl, rfl⟩
    refine ⟨_, rfl, ?_⟩
    rintro x F1 B1 (⟨c, -⟩ | ⟨-, c, -⟩ | ⟨-, -, rfl, rfl, rfl⟩)
    · exact absurd (jr a2.2.1.2 hj (by omega)) c
    · rw [a3.1.2.1] at c; exact absurd (n_eq nd 6 c) (by omega)
    · refine ⟨by rw [upd_ne (by decide), upd_eq], by rw [a3.1.2.1, nI_1], _, _, _, _, rfl, rfl, NT, ni, nf, nd + 1, Lv, Md, ct, dp, pt, sz, al, va_up dr nd j, hm, ar, rs, ru, cf, hp, by omega, ?_⟩
      have e : (F 10).toNatClampNeg = nd := by rw [a3.1.2.1]; exact nI_clamp (by omega)
      rw [e]
      exact h.part hj hnd (by rw [upd_eq, a3.1.2.1, nI_1]) (fun f hf => by rw [upd_ne (by omega), upd_ne (by omega)])
  · rintro E w ⟨rfl, ⟨rfl, c⟩ | ⟨rfl, c, c2⟩⟩
    · refine ⟨1, Or.inl ⟨rfl, rfl⟩, ?_⟩
      rintro x F1 B1 (⟨-, -, rfl, rfl⟩ | ⟨d, -⟩ | ⟨d, -⟩)
      · exact JW.e0 H0
      · rw [a2.2.1.2] at d; exact absurd d c
      · rw [a2.2.1.2] at d; exact absurd d c
    · refine ⟨2, Or.inr ⟨rfl, rfl⟩, ?_⟩
      rintro x F1 B1 (⟨d, -⟩ | ⟨-, -, -, rfl, rfl⟩ | ⟨-, d, -⟩)
      · rw [a2.2.1.2] at d; exact absurd c d
      · exact JW.e0 H0
      · exact absurd (by rw [a3.1.2.1, c2]; rfl) d
theorem jn_layout {l : Launch} {D : va_G} {tl : List (ClassId × FieldType)} {Z : (Nat → Prop) → State → Heap → Prop} {ks : Nat → ClassId} {bm : Nat → Nat} {k n : Nat} {hd : Nat → Nat} {K : List Nat} {am N : Nat → Nat} {S : gS} {F : Nat → Int32} {B : Nat → Nat → Int32} (hl : l.stackTraces = false) (hzx : hc_ZX Z) (hZ : ev_Zok Z) (hNw : hc_ZN Z) (hAO : hc_AO Z) (ta tz : Nat) (hST : hc_ST Z ta tz) (hZ9 : ho_Z Z hd) (hDi : ho_D hd) (hk : 20 < k) (hn : n < 1000) (H : RX hd n K am N S F B) (p0 : Int32) (p1 : Int32) : ∃ Q X P, MX (hc_π l D ks tl Z) (m_hc_layout k 1 6) 1 6 [.ref (am 0), .int p0, .int p1] (gw K am ks N S) Q X ∧ MT (hc_π l D ks tl Z) m_layout 0 0 [.ref (bm 60), .int p0, .int p1] (mo_W mo_ci bm (ks 0) (ks 1) F B) (mo_qi bm (ks 0) (ks 1) P) ∧ JI hd ks n K am N S cd_layout P Q X := by
  have H0 := H
  obtain ⟨NT, ni, nf, nd, Lv, Md, ct, dp, pt, sz, al, dr, hm, ar, rs, ru, cf, hp, hM, h⟩ := H
  have h9 := h
  obtain ⟨a1, a2, a3, a4, ⟨a5, a6⟩, a7, a8, a9, a10⟩ := h9
  have hn6 := a4.1.2.2
  have h32 := a2.1.1
  have hLv6 := a9.1.2.2
  have hnd6 := a3.1.2.2
  have hnf12 := a8.1.2.2
  refine ⟨_, _, _, hx_hc_layout p0 p1 hl hzx hZ a1.1 a2.1 a2.2.1.1 (fun t ht => ⟨(a2.2.2.1.2.1 t ht).1, (a2.2.2.1.2.1 t ht).2.1⟩) (by omega), mt_layout hZ p0 p1 NT a2.2.1.2 h32 (fun t ht => ⟨ct t, (a2.2.2.1.2.1 t ht).2.1, (a2.2.2.1.2.1 t ht).1⟩), ?_, ?_⟩
  · rintro r w ⟨j, hj, rfl, c1, c2, rfl, rfl⟩
    refine ⟨_, rfl, ?_⟩
    rintro x F1 B1 ⟨⟨c, -⟩ | ⟨tt, ht, e, c, -⟩ | ⟨tt, ht, e, -, -, rfl, rfl⟩, rfl⟩
    · exact absurd (jr a2.2.1.2 hj (by omega)) c
    · obtain rfl := je e (by omega) (by omega)
      rcases c with c | c
      · exact absurd c c1
      · exact absurd c2 c
    · obtain rfl := je e (by omega) (by omega)
      exact ⟨upd_eq, rfl, (JW.e0 H0).2⟩
  · rintro E w ⟨rfl, ⟨rfl, c⟩ | ⟨rfl, j, hj, rfl, c⟩⟩
    · refine ⟨1, Or.inl ⟨rfl, rfl⟩, ?_⟩
      rintro x F1 B1 ⟨⟨-, -, rfl⟩ | ⟨tt, ht, rfl, -⟩ | ⟨tt, ht, rfl, -⟩, rfl⟩
      · exact JW.e0 H0
      · exact absurd (jr rfl ht (by omega)) c
      · exact absurd (jr rfl ht (by omega)) c
    · refine ⟨2, Or.inr ⟨rfl, rfl⟩, ?_⟩
      rintro x F1 B1 ⟨⟨d, -⟩ | ⟨tt, ht, e, -, -, rfl⟩ | ⟨tt, ht, e, d1, d2, -⟩, rfl⟩
      · exact absurd (jr a2.2.1.2 hj (by omega)) d
      · exact JW.e0 H0
      · obtain rfl := je e (by omega) (by omega)
        rcases c with c | c
        · exact absurd c d1
        · exact absurd d2 c
theorem jn_fits {l : Launch} {D : va_G} {tl : List (ClassId × FieldType)} {Z : (Nat → Prop) → State → Heap → Prop} {ks : Nat → ClassId} {bm : Nat → Nat} {k n : Nat} {hd : Nat → Nat} {K : List Nat} {am N : Nat → Nat} {S : gS} {F : Nat → Int32} {B : Nat → Nat → Int32} (hl : l.stackTraces = false) (hzx : hc_ZX Z) (hZ : ev_Zok Z) (hNw : hc_ZN Z) (hAO : hc_AO Z) (ta tz : Nat) (hST : hc_ST Z ta tz) (hZ9 : ho_Z Z hd) (hDi : ho_D hd) (hk : 20 < k) (hn : n < 1000) (H : RX hd n K am N S F B) (p0 : Int32) (p1 : Int32) : ∃ Q X P, MX (hc_π l D ks tl Z) (m_hc_fits k 1 6) 1 6 [.ref (am 0), .int p0, .int p1] (gw K am ks N S) Q X ∧ MT (hc_π l D ks tl Z) m_fits 0 0 [.ref (bm 60), .int p0, .int p1] (mo_W mo_ci bm (ks 0) (ks 1) F B) (mo_qi bm (ks 0) (ks 1) P) ∧ JI hd ks n K am N S cd_fits P Q X := by
  have H0 := H
  obtain ⟨NT, ni, nf, nd, Lv, Md, ct, dp, pt, sz, al, dr, hm, ar, rs, ru, cf, hp, hM, h⟩ := H
  have h9 := h
  obtain ⟨a1, a2, a3, a4, ⟨a5, a6⟩, a7, a8, a9, a10⟩ := h9
  have hn6 := a4.1.2.2
  have h32 := a2.1.1
  have hLv6 := a9.1.2.2
  have hnd6 := a3.1.2.2
  have hnf12 := a8.1.2.2
  refine ⟨_, _, _, hx_hc_fits p0 p1 hl hzx hZ a1.1 a2.1 a2.2.1.1 a2.2.2.1 (by omega), mt_fits hZ p0 p1 NT a2.2.1.2 ct dp pt a2.2.2.1, ?_, ?_⟩
  · rintro r w ⟨a, b, ha, hb, rfl, rfl, rfl, rfl⟩
    refine ⟨_, rfl, ?_⟩
    rintro x F1 B1 (⟨c, -⟩ | ⟨tt, uu, ht, hu, e1, e2, rfl, ⟨w, rfl⟩, hs⟩)
    · exact absurd ⟨jr a2.2.1.2 ha (by omega), jr a2.2.1.2 hb (by omega)⟩ c
    · obtain rfl := je e1 (by omega) (by omega)
      obtain rfl := je e2 (by omega) (by omega)
      exact ⟨by rw [upd_ne (by decide), upd_eq], rfl, JW.ex H0 (fun f h1 => by rw [upd_ne (by omega), upd_ne (by omega)]) (fun f hf => hs.1 f (Or.inl hf))⟩
  · rintro E w ⟨rfl, rfl, c⟩
    refine ⟨1, ⟨rfl, rfl⟩, ?_⟩
    rintro x F1 B1 (⟨-, -, rfl, hs⟩ | ⟨tt, uu, ht, hu, rfl, rfl, -⟩)
    · exact JW.e2 H0 hs
    · exact absurd ⟨jr rfl ht (by omega), jr rfl hu (by omega)⟩ c
theorem jn_read {l : Launch} {D : va_G} {tl : List (ClassId × FieldType)} {Z : (Nat → Prop) → State → Heap → Prop} {ks : Nat → ClassId} {bm : Nat → Nat} {k n : Nat} {hd : Nat → Nat} {K : List Nat} {am N : Nat → Nat} {S : gS} {F : Nat → Int32} {B : Nat → Nat → Int32} (hl : l.stackTraces = false) (hzx : hc_ZX Z) (hZ : ev_Zok Z) (hNw : hc_ZN Z) (hAO : hc_AO Z) (ta tz : Nat) (hST : hc_ST Z ta tz) (hZ9 : ho_Z Z hd) (hDi : ho_D hd) (hk : 20 < k) (hn : n < 1000) (H : RX hd n K am N S F B) (p0 : Int32) (p1 : Int32) : ∃ Q X P, MX (hc_π l D ks tl Z) (m_hc_read k 1 6) 1 6 [.ref (am 0), .int p0, .int p1] (gw K am ks N S) Q X ∧ MT (hc_π l D ks tl Z) m_read 0 0 [.ref (bm 60), .int p0, .int p1] (mo_W mo_ci bm (ks 0) (ks 1) F B) (mo_qi bm (ks 0) (ks 1) P) ∧ JI hd ks n K am N S cd_read P Q X := by
  have H0 := H
  obtain ⟨NT, ni, nf, nd, Lv, Md, ct, dp, pt, sz, al, dr, hm, ar, rs, ru, cf, hp, hM, h⟩ := H
  have h9 := h
  obtain ⟨a1, a2, a3, a4, ⟨a5, a6⟩, a7, a8, a9, a10⟩ := h9
  have hn6 := a4.1.2.2
  have h32 := a2.1.1
  have hLv6 := a9.1.2.2
  have hnd6 := a3.1.2.2
  have hnf12 := a8.1.2.2
  refine ⟨_, _, _, hx_hc_read p0 p1 hl hzx hZ a1.1 hn6 a4.1.1 (fun i hi => ⟨(a4.2.1 i hi).1, (a4.2.1 i hi).2.1⟩) (fun i hi => (a4.2.1 i hi).2.2.2.2) (by omega), mt_read hZ p0 p1 (fun c d e => by obtain ⟨j, hj, rfl⟩ := n_ins a4.1.2.1 hn6 c; obtain ⟨a, ha, rfl⟩ := n_r255 d (Int32.not_lt.mp e); rw [jr2]; exact vp_in_nI (by omega) (by decide)), ?_, ?_⟩
  · rintro r w ⟨j, a, hj, rfl, ha, rfl, rfl, rfl⟩
    refine ⟨_, rfl, ?_⟩
    rintro x F1 B1 ⟨⟨c, -⟩ | ⟨-, c, -⟩ | ⟨-, -, -, rfl, rfl⟩, rfl⟩
    · exact absurd (jr a4.1.2.1 hj (by omega)) c
    · exact absurd ((n_out (by omega)).mp c) (by omega)
    · refine ⟨upd_eq, ?_, (JW.e0 H0).2⟩
      rw [n_ia (by omega) ha]
  · rintro E w ⟨rfl, ⟨rfl, c⟩ | ⟨rfl, c, c2⟩⟩
    · refine ⟨1, Or.inl ⟨rfl, rfl⟩, ?_⟩
      rw [← a4.1.2.1] at c
      rintro x F1 B1 ⟨⟨-, -, rfl⟩ | ⟨d, -⟩ | ⟨d, -⟩, rfl⟩
      · exact JW.e0 H0
      · exact absurd d c
      · exact absurd d c
    · refine ⟨2, Or.inr ⟨rfl, rfl⟩, ?_⟩
      rw [← a4.1.2.1] at c
      rintro x F1 B1 ⟨⟨d, -⟩ | ⟨-, -, -, rfl⟩ | ⟨-, d1, d2, -⟩, rfl⟩
      · exact absurd c d
      · exact JW.e0 H0
      · rcases c2 with c2 | c2
        · exact absurd c2 d1
        · exact absurd c2 d2
theorem jn_write {l : Launch} {D : va_G} {tl : List (ClassId × FieldType)} {Z : (Nat → Prop) → State → Heap → Prop} {ks : Nat → ClassId} {bm : Nat → Nat} {k n : Nat} {hd : Nat → Nat} {K : List Nat} {am N : Nat → Nat} {S : gS} {F : Nat → Int32} {B : Nat → Nat → Int32} (hl : l.stackTraces = false) (hzx : hc_ZX Z) (hZ : ev_Zok Z) (hNw : hc_ZN Z) (hAO : hc_AO Z) (ta tz : Nat) (hST : hc_ST Z ta tz) (hZ9 : ho_Z Z hd) (hDi : ho_D hd) (hk : 20 < k) (hn : n < 1000) (H : RX hd n K am N S F B) (p0 : Int32) (p1 : Int32) (p2 : Int32) (p3 : Int64) : ∃ Q X P, MX (hc_π l D ks tl Z) (m_hc_write k 1 6) 1 6 [.ref (am 0), .int p0, .int p1, .int p2, .long p3] (gw K am ks N S) Q X ∧ MT (hc_π l D ks tl Z) m_write 0 0 [.ref (bm 60), .int p0, .int p1, .int p2, .long p3] (mo_W mo_ci bm (ks 0) (ks 1) F B) (mo_qv bm (ks 0) (ks 1) P) ∧ JV hd ks n K am N S cd_write P Q X := by
  have H0 := H
  obtain ⟨NT, ni, nf, nd, Lv, Md, ct, dp, pt, sz, al, dr, hm, ar, rs, ru, cf, hp, hM, h⟩ := H
  have h9 := h
  obtain ⟨a1, a2, a3, a4, ⟨a5, a6⟩, a7, a8, a9, a10⟩ := h9
  have hn6 := a4.1.2.2
  have h32 := a2.1.1
  have hLv6 := a9.1.2.2
  have hnd6 := a3.1.2.2
  have hnf12 := a8.1.2.2
  refine ⟨_, _, _, hx_hc_write p0 p1 p2 p3 hl hzx hZ hNw a1.1 hn6 a4.1.1 (fun i hi => ⟨(a4.2.1 i hi).1, (a4.2.1 i hi).2.1⟩) (by omega), mt_write hZ p0 p1 p2 p3 ni a4.1.2.1 hn6, ?_, ?_⟩
  · rintro r w ⟨j, a, nn, hj, rfl, ha, rfl, h1, h8, rfl, rfl, rfl⟩
    refine ⟨rfl, ?_⟩
    rintro F1 B1 (⟨c, -⟩ | ⟨-, -, -, c, -⟩ | ⟨ii, a', n', hi, ha', h1', h8', e1, e2, e3, rfl, rfl⟩)
    · rcases c with c | c | c
      · exact absurd (jr a4.1.2.1 hj (by omega)) c
      · exact absurd (n_lt nn 1 c) (by omega)
      · exact absurd (n_lt 8 nn c) (by omega)
    · exact absurd ((n_out (by omega)).mp c) (by omega)
    · obtain rfl := je e1 (by omega) (by omega)
      obtain rfl := je e2 (by omega) (by omega)
      obtain rfl := je e3 (by omega) (by omega)
      exact ⟨upd_eq, _, _, _, _, rfl, rfl, NT, ni, nf, nd, Lv, Md, ct, dp, pt, sz, al, dr, hm, ar, rs, ru, cf, hp, by omega, h.write hj (by omega) (fun f hf => upd_ne (by omega))⟩
  · rintro E w ⟨rfl, ⟨rfl, c⟩ | ⟨rfl, c, c1, c8, c2⟩⟩
    · refine ⟨1, Or.inl ⟨rfl, rfl⟩, ?_⟩
      rw [← a4.1.2.1] at c
      rintro x F1 B1 (⟨-, rfl, rfl⟩ | ⟨d, d1, d2, -⟩ | ⟨ii, a', n', hi, ha', h1', h8', rfl, rfl, rfl, -⟩)
      · exact JW.e0 H0
      · rcases c with c | c | c
        · exact absurd d c
        · exact absurd c d1
        · exact absurd c d2
      · rcases c with c | c | c
        · exact absurd (jr a4.1.2.1 hi (by omega)) c
        · exact absurd (n_lt n' 1 c) (by omega)
        · exact absurd (n_lt 8 n' c) (by omega)
    · refine ⟨2, Or.inr ⟨rfl, rfl⟩, ?_⟩
      rw [← a4.1.2.1] at c
      rintro x F1 B1 (⟨d, -⟩ | ⟨-, -, -, -, rfl, rfl⟩ | ⟨ii, a', n', hi, ha', h1', h8', rfl, rfl, rfl, -⟩)
      · rcases d with d | d | d
        · exact absurd c d
        · exact absurd d c1
        · exact absurd d c8
      · exact JW.e0 H0
      · exact absurd ((n_out (by omega)).mp c2) (by omega)
theorem jn_enter {l : Launch} {D : va_G} {tl : List (ClassId × FieldType)} {Z : (Nat → Prop) → State → Heap → Prop} {ks : Nat → ClassId} {bm : Nat → Nat} {k n : Nat} {hd : Nat → Nat} {K : List Nat} {am N : Nat → Nat} {S : gS} {F : Nat → Int32} {B : Nat → Nat → Int32} (hl : l.stackTraces = false) (hzx : hc_ZX Z) (hZ : ev_Zok Z) (hNw : hc_ZN Z) (hAO : hc_AO Z) (ta tz : Nat) (hST : hc_ST Z ta tz) (hZ9 : ho_Z Z hd) (hDi : ho_D hd) (hk : 20 < k) (hn : n < 1000) (H : RX hd n K am N S F B) (p0 : Int32) : ∃ Q X P, MX (hc_π l D ks tl Z) (m_hc_enter k 1 6) 1 6 [.ref (am 0), .int p0] (gw K am ks N S) Q X ∧ MT (hc_π l D ks tl Z) m_enter 0 0 [.ref (bm 60), .int p0] (mo_W mo_ci bm (ks 0) (ks 1) F B) (mo_qv bm (ks 0) (ks 1) P) ∧ JV hd ks n K am N S cd_enter P Q X := by
  have H0 := H
  obtain ⟨NT, ni, nf, nd, Lv, Md, ct, dp, pt, sz, al, dr, hm, ar, rs, ru, cf, hp, hM, h⟩ := H
  have h9 := h
  obtain ⟨a1, a2, a3, a4, ⟨a5, a6⟩, a7, a8, a9, a10⟩ := h9
  have hn6 := a4.1.2.2
  have h32 := a2.1.1
  have hLv6 := a9.1.2.2
  have hnd6 := a3.1.2.2
  have hnf12 := a8.1.2.2
  refine ⟨_, _, _, hx_hc_enter p0 hl hzx hZ a1.1 hn6 a4.1.1 (fun i hi => ⟨(a4.2.1 i hi).1, (a4.2.1 i hi).2.1⟩) a9.1.1 a9.1.2.2 (b15 := B 15) (fun i hi => (a4.2.1 i hi).2.2.2.1) (by omega), mt_enter hZ p0 (fun c => by obtain ⟨j, hj, rfl⟩ := n_ins a4.1.2.1 hn6 c; exact vp_in_nI (by omega) (by decide)) (fun c => by rw [a9.1.2.1] at c ⊢; exact vp_in_nI (by have := n_nlt 0 Lv c; omega) (by decide)), ?_, ?_⟩
  · rintro r w ⟨j, hj, rfl, c1, c2, rfl, rfl⟩
    refine ⟨rfl, ?_⟩
    rintro F1 B1 (⟨c, -⟩ | ⟨-, c, -⟩ | ⟨-, -, -, rfl, rfl⟩)
    · exact absurd (jr a4.1.2.1 hj (by omega)) c
    · rcases c with c | c
      · rw [a9.1.2.1] at c; exact absurd (n_lt 0 Lv c) (by omega)
      · rw [nI_clamp (by omega)] at c; exact absurd c2 c
    · have e1 : (F 29).toNatClampNeg = Lv := by rw [a9.1.2.1]; exact nI_clamp (by omega)
      have e2 : (nI j).toNatClampNeg = j := nI_clamp (by omega)
      refine ⟨by rw [upd_ne (by decide), upd_eq], _, _, _, _, rfl, rfl, NT, ni, nf, nd, Lv + 1, Md, ct, dp, pt, sz, al, dr, hm, ar, rs, va_up ru Lv j, va_up cf Lv 0, hp, by omega, ?_⟩
      refine h.enter hj c1 c2 (fun f f1 f2 f3 f4 => ?_) ?_ ?_ ?_ ?_ (by rw [upd_eq, a9.1.2.1, nI_1]) (fun f hf => by rw [upd_ne (by omega), upd_ne (by omega)])
      · rw [mo_ps, va_up_ne _ _ f1, va_up_ne _ _ f4, va_up_ne _ _ f3, va_up_ne _ _ f2]
      · rw [mo_ps, va_up_ne _ _ (by decide), va_up_ne _ _ (by decide), va_up_ne _ _ (by decide), va_up_self, e1]
      · rw [mo_ps, va_up_ne _ _ (by decide), va_up_ne _ _ (by decide), va_up_self, e1]
      · rw [mo_ps, va_up_ne _ _ (by decide), va_up_self, e1]
      · rw [mo_ps, va_up_self, e2]
  · rintro E w ⟨rfl, ⟨rfl, c⟩ | ⟨rfl, j, hj, rfl, c⟩⟩
    · refine ⟨1, Or.inl ⟨rfl, rfl⟩, ?_⟩
      rw [← a4.1.2.1] at c
      rintro x F1 B1 (⟨-, rfl, rfl⟩ | ⟨d, -⟩ | ⟨d, -⟩)
      · exact JW.e0 H0
      · exact absurd d c
      · exact absurd d c
    · refine ⟨2, Or.inr ⟨rfl, rfl⟩, ?_⟩
      rintro x F1 B1 (⟨d, -⟩ | ⟨-, -, rfl, rfl⟩ | ⟨-, d1, d2, -⟩)
      · exact absurd (jr a4.1.2.1 hj (by omega)) d
      · exact JW.e0 H0
      · rcases c with c | c
        · rw [a9.1.2.1] at d1; exact absurd (n_nlt 0 Lv d1) (by omega)
        · rw [nI_clamp (by omega)] at d2; exact absurd d2 c
theorem jn_leave {l : Launch} {D : va_G} {tl : List (ClassId × FieldType)} {Z : (Nat → Prop) → State → Heap → Prop} {ks : Nat → ClassId} {bm : Nat → Nat} {k n : Nat} {hd : Nat → Nat} {K : List Nat} {am N : Nat → Nat} {S : gS} {F : Nat → Int32} {B : Nat → Nat → Int32} (hl : l.stackTraces = false) (hzx : hc_ZX Z) (hZ : ev_Zok Z) (hNw : hc_ZN Z) (hAO : hc_AO Z) (ta tz : Nat) (hST : hc_ST Z ta tz) (hZ9 : ho_Z Z hd) (hDi : ho_D hd) (hk : 20 < k) (hn : n < 1000) (H : RX hd n K am N S F B)  : ∃ Q X P, MX (hc_π l D ks tl Z) (m_hc_leave k 1 6) 1 6 [.ref (am 0)] (gw K am ks N S) Q X ∧ MT (hc_π l D ks tl Z) m_leave 0 0 [.ref (bm 60)] (mo_W mo_ci bm (ks 0) (ks 1) F B) (mo_qv bm (ks 0) (ks 1) P) ∧ JV hd ks n K am N S cd_leave P Q X := by
  have H0 := H
  obtain ⟨NT, ni, nf, nd, Lv, Md, ct, dp, pt, sz, al, dr, hm, ar, rs, ru, cf, hp, hM, h⟩ := H
  have h9 := h
  obtain ⟨a1, a2, a3, a4, ⟨a5, a6⟩, a7, a8, a9, a10⟩ := h9
  have hn6 := a4.1.2.2
  have h32 := a2.1.1
  have hLv6 := a9.1.2.2
  have hnd6 := a3.1.2.2
  have hnf12 := a8.1.2.2
  refine ⟨_, _, _, hx_hc_leave hl hzx hZ a1.1 hn6 a4.1.1 (fun i hi => ⟨(a4.2.1 i hi).1, (a4.2.1 i hi).2.1⟩) a9.1.1 a9.1.2.2 (fun k9 hk9 => ⟨(a9.2.1 k9 hk9).1, (a9.2.1 k9 hk9).2.2.1⟩) (by omega), mt_leave hZ (a9.2.2.2.2.2 0 (by omega)), ?_, ?_⟩
  · rintro r w ⟨rfl, rfl, rfl⟩
    refine ⟨rfl, ?_⟩
    rintro F1 B1 (⟨c, -⟩ | ⟨-, rfl, rfl⟩)
    · exact absurd a9.1.2.1 c
    · have e : (B 30 0).toNatClampNeg = ru (1 - 1) := by
        rw [(a9.2.1 0 (by omega)).2.1, nI_clamp (by have := (a9.2.1 0 (by omega)).2.2.1; omega)]
      rw [e]
      refine ⟨by rw [upd_ne (by decide), upd_eq], _, _, _, _, rfl, rfl, NT, ni, nf, nd, 1 - 1, Md, ct, dp, pt, sz, al, dr, hm, ar, rs, ru, cf, va_up hp (ru (1 - 1)) 128, by omega, ?_⟩
      refine h.leave rfl (fun f f1 f2 => by rw [va_up_ne _ _ f1, va_up_ne _ _ f2]) (by rw [va_up_self]) (by rw [va_up_ne _ _ (by decide), va_up_self]) (by rw [upd_eq]; rfl) (fun f hf => by rw [upd_ne (by omega), upd_ne (by omega)])
  · rintro E w ⟨rfl, rfl, c⟩
    refine ⟨1, ⟨rfl, rfl⟩, ?_⟩
    rintro x F1 B1 (⟨-, rfl, rfl⟩ | ⟨d, -⟩)
    · exact JW.e0 H0
    · rw [a9.1.2.1] at d; exact absurd (n_eq Lv 1 d) c
theorem jn_latest {l : Launch} {D : va_G} {tl : List (ClassId × FieldType)} {Z : (Nat → Prop) → State → Heap → Prop} {ks : Nat → ClassId} {bm : Nat → Nat} {k n : Nat} {hd : Nat → Nat} {K : List Nat} {am N : Nat → Nat} {S : gS} {F : Nat → Int32} {B : Nat → Nat → Int32} (hl : l.stackTraces = false) (hzx : hc_ZX Z) (hZ : ev_Zok Z) (hNw : hc_ZN Z) (hAO : hc_AO Z) (ta tz : Nat) (hST : hc_ST Z ta tz) (hZ9 : ho_Z Z hd) (hDi : ho_D hd) (hk : 20 < k) (hn : n < 1000) (H : RX hd n K am N S F B) (p0 : Int32) : ∃ Q X P, MX (hc_π l D ks tl Z) (m_hc_latest k 1 6) 1 6 [.ref (am 0), .int p0] (gw K am ks N S) Q X ∧ MT (hc_π l D ks tl Z) m_latest 0 0 [.ref (bm 60), .int p0] (mo_W mo_ci bm (ks 0) (ks 1) F B) (mo_qi bm (ks 0) (ks 1) P) ∧ JI hd ks n K am N S cd_latest P Q X := by
  have H0 := H
  obtain ⟨NT, ni, nf, nd, Lv, Md, ct, dp, pt, sz, al, dr, hm, ar, rs, ru, cf, hp, hM, h⟩ := H
  have h9 := h
  obtain ⟨a1, a2, a3, a4, ⟨a5, a6⟩, a7, a8, a9, a10⟩ := h9
  have hn6 := a4.1.2.2
  have h32 := a2.1.1
  have hLv6 := a9.1.2.2
  have hnd6 := a3.1.2.2
  have hnf12 := a8.1.2.2
  refine ⟨_, _, _, hx_hc_latest p0 hl hzx hZ a1.1 a10.1 a10.2.1 a10.2.2 (by omega), mt_latest hZ p0, ?_, ?_⟩
  · rintro r w ⟨c1, c2, rfl, rfl⟩
    refine ⟨_, rfl, ?_⟩
    rintro x F1 B1 ⟨⟨c, -⟩ | ⟨-, -, rfl, rfl⟩, rfl⟩
    · rcases c with c | c
      · exact absurd c c1
      · exact absurd c c2
    · exact ⟨upd_eq, rfl, (JW.e0 H0).2⟩
  · rintro E w ⟨rfl, rfl, c⟩
    refine ⟨1, ⟨rfl, rfl⟩, ?_⟩
    rintro x F1 B1 ⟨⟨-, -, rfl⟩ | ⟨c1, c2, -⟩, rfl⟩
    · exact JW.e0 H0
    · rcases c with c | c
      · exact absurd c c1
      · exact absurd c c2
theorem jn_state {l : Launch} {D : va_G} {tl : List (ClassId × FieldType)} {Z : (Nat → Prop) → State → Heap → Prop} {ks : Nat → ClassId} {bm : Nat → Nat} {k n : Nat} {hd : Nat → Nat} {K : List Nat} {am N : Nat → Nat} {S : gS} {F : Nat → Int32} {B : Nat → Nat → Int32} (hl : l.stackTraces = false) (hzx : hc_ZX Z) (hZ : ev_Zok Z) (hNw : hc_ZN Z) (hAO : hc_AO Z) (ta tz : Nat) (hST : hc_ST Z ta tz) (hZ9 : ho_Z Z hd) (hDi : ho_D hd) (hk : 20 < k) (hn : n < 1000) (H : RX hd n K am N S F B) (p0 : Int32) (p1 : Int32) : ∃ Q X P, MX (hc_π l D ks tl Z) (m_hc_state k 1 6) 1 6 [.ref (am 0), .int p0, .int p1] (gw K am ks N S) Q X ∧ MT (hc_π l D ks tl Z) m_state 0 0 [.ref (bm 60), .int p0, .int p1] (mo_W mo_ci bm (ks 0) (ks 1) F B) (mo_qi bm (ks 0) (ks 1) P) ∧ JI hd ks n K am N S cd_state P Q X := by
  have H0 := H
  obtain ⟨NT, ni, nf, nd, Lv, Md, ct, dp, pt, sz, al, dr, hm, ar, rs, ru, cf, hp, hM, h⟩ := H
  have h9 := h
  obtain ⟨a1, a2, a3, a4, ⟨a5, a6⟩, a7, a8, a9, a10⟩ := h9
  have hn6 := a4.1.2.2
  have h32 := a2.1.1
  have hLv6 := a9.1.2.2
  have hnd6 := a3.1.2.2
  have hnf12 := a8.1.2.2
  refine ⟨_, _, _, hx_hc_state p0 p1 hl hzx hZ a1.1 hn6 a4.1.1 (fun i hi => ⟨(a4.2.1 i hi).1, (a4.2.1 i hi).2.1⟩) (b14 := B 14) (b15 := B 15) (fun i hi => (a4.2.1 i hi).2.2.1) (fun i hi => (a4.2.1 i hi).2.2.2.1) hd hZ9 hDi a5.1 (fun x hx => (a5.2 x hx).1) (by omega), mt_state hZ p0 p1 ni a4.1.2.1 hn6, ?_, ?_⟩
  · rintro r w ⟨j, hj, rfl, c1, c2, rfl, rfl⟩
    refine ⟨_, rfl, ?_⟩
    rintro x F1 B1 ⟨⟨c, -⟩ | ⟨ii, hi, e, -, -, rfl, rfl⟩, rfl⟩
    · rcases c with c | c | c
      · exact absurd (jr a4.1.2.1 hj (by omega)) c
      · exact absurd c c1
      · exact absurd c c2
    · obtain rfl := je e (by omega) (by omega)
      exact ⟨upd_eq, rfl, (JW.e0 H0).2⟩
  · rintro E w ⟨rfl, rfl, c⟩
    refine ⟨1, ⟨rfl, rfl⟩, ?_⟩
    rintro x F1 B1 ⟨⟨-, -, rfl⟩ | ⟨ii, hi, rfl, d1, d2, -⟩, rfl⟩
    · exact JW.e0 H0
    · rcases c with c | c | c
      · exact absurd (jr rfl hi (by omega)) c
      · exact absurd c d1
      · exact absurd c d2
theorem jn_handle {l : Launch} {D : va_G} {tl : List (ClassId × FieldType)} {Z : (Nat → Prop) → State → Heap → Prop} {ks : Nat → ClassId} {bm : Nat → Nat} {k n : Nat} {hd : Nat → Nat} {K : List Nat} {am N : Nat → Nat} {S : gS} {F : Nat → Int32} {B : Nat → Nat → Int32} (hl : l.stackTraces = false) (hzx : hc_ZX Z) (hZ : ev_Zok Z) (hNw : hc_ZN Z) (hAO : hc_AO Z) (ta tz : Nat) (hST : hc_ST Z ta tz) (hZ9 : ho_Z Z hd) (hDi : ho_D hd) (hk : 20 < k) (hn : n < 1000) (H : RX hd n K am N S F B) (p0 : Int32) (p1 : Int32) (p2 : Int32) : ∃ Q X P, MX (hc_π l D ks tl Z) (m_hc_handle k 1 6) 1 6 [.ref (am 0), .int p0, .int p1, .int p2] (gw K am ks N S) Q X ∧ MT (hc_π l D ks tl Z) m_handle 0 0 [.ref (bm 60), .int p0, .int p1, .int p2] (mo_W mo_ci bm (ks 0) (ks 1) F B) (mo_qi bm (ks 0) (ks 1) P) ∧ JI hd ks n K am N S cd_handle P Q X := by
  have H0 := H
  obtain ⟨NT, ni, nf, nd, Lv, Md, ct, dp, pt, sz, al, dr, hm, ar, rs, ru, cf, hp, hM, h⟩ := H
  have h9 := h
  obtain ⟨a1, a2, a3, a4, ⟨a5, a6⟩, a7, a8, a9, a10⟩ := h9
  have hn6 := a4.1.2.2
  have h32 := a2.1.1
  have hLv6 := a9.1.2.2
  have hnd6 := a3.1.2.2
  have hnf12 := a8.1.2.2
  refine ⟨_, _, _, hx_hc_handle p0 p1 p2 hl hzx hZ a1.1 hn6 a4.1.1 (fun i hi => ⟨(a4.2.1 i hi).1, (a4.2.1 i hi).2.1⟩) hd hZ9 hDi a5.1 (fun x hx => (a5.2 x hx).1) (by omega), mt_handle hZ p0 p1 p2 ni a4.1.2.1 hn6 (fun y _ hu => by obtain ⟨r, hr, e⟩ := a6.2.1 y hu; rw [e]; exact vp_in_nI (by omega) (by decide)), ?_, ?_⟩
  · rintro r w ⟨j, jj, hj, rfl, h1, h16, rfl, c1, c2, rfl, rfl⟩
    refine ⟨_, rfl, ?_⟩
    rintro x F1 B1 ⟨⟨c, -⟩ | ⟨ii, j2, hi, g1, g2, e, e2, -, -, rfl, rfl⟩, rfl⟩
    · rcases c with c | c | c | c | c
      · exact absurd (jr a4.1.2.1 hj (by omega)) c
      · exact absurd (n_lt jj 1 c) (by omega)
      · exact absurd (n_lt 16 jj c) (by omega)
      · exact absurd c c1
      · exact absurd c c2
    · obtain rfl := je e (by omega) (by omega)
      obtain rfl := je e2 (by omega) (by omega)
      exact ⟨upd_eq, rfl, (JW.e0 H0).2⟩
  · rintro E w ⟨rfl, rfl, c⟩
    refine ⟨1, ⟨rfl, rfl⟩, ?_⟩
    rintro x F1 B1 ⟨⟨-, -, rfl⟩ | ⟨ii, j2, hi, g1, g2, rfl, rfl, d1, d2, -⟩, rfl⟩
    · exact JW.e0 H0
    · rcases c with c | c | c | c | c
      · exact absurd (jr rfl hi (by omega)) c
      · exact absurd (n_lt j2 1 c) (by omega)
      · exact absurd (n_lt 16 j2 c) (by omega)
      · exact absurd c d1
      · exact absurd c d2
theorem jn_resources {l : Launch} {D : va_G} {tl : List (ClassId × FieldType)} {Z : (Nat → Prop) → State → Heap → Prop} {ks : Nat → ClassId} {bm : Nat → Nat} {k n : Nat} {hd : Nat → Nat} {K : List Nat} {am N : Nat → Nat} {S : gS} {F : Nat → Int32} {B : Nat → Nat → Int32} (hl : l.stackTraces = false) (hzx : hc_ZX Z) (hZ : ev_Zok Z) (hNw : hc_ZN Z) (hAO : hc_AO Z) (ta tz : Nat) (hST : hc_ST Z ta tz) (hZ9 : ho_Z Z hd) (hDi : ho_D hd) (hk : 20 < k) (hn : n < 1000) (H : RX hd n K am N S F B) (p0 : Int32) (p1 : Int32) (hp1 : p1 = 0 ∨ p1 = 1) : ∃ Q X P, MX (hc_π l D ks tl Z) (m_hc_resources k 1 6) 1 6 [.ref (am 0), .int p0, .int p1] (gw K am ks N S) Q X ∧ MT (hc_π l D ks tl Z) m_resources 0 0 [.ref (bm 60), .int p0, .int p1] (mo_W mo_ci bm (ks 0) (ks 1) F B) (mo_qi bm (ks 0) (ks 1) P) ∧ JI hd ks n K am N S cd_resources P Q X := by
  have H0 := H
  obtain ⟨NT, ni, nf, nd, Lv, Md, ct, dp, pt, sz, al, dr, hm, ar, rs, ru, cf, hp, hM, h⟩ := H
  have h9 := h
  obtain ⟨a1, a2, a3, a4, ⟨a5, a6⟩, a7, a8, a9, a10⟩ := h9
  have hn6 := a4.1.2.2
  have h32 := a2.1.1
  have hLv6 := a9.1.2.2
  have hnd6 := a3.1.2.2
  have hnf12 := a8.1.2.2
  refine ⟨_, _, _, hx_hc_resources p0 p1 hl hzx hZ a1.1 (by omega), mt_resources hZ p0 p1 Md a7.1.1 (by omega), ?_, ?_⟩
  · rintro r w ⟨kd, hk4, rfl, rfl, rfl⟩
    refine ⟨_, rfl, ?_⟩
    rintro x F1 B1 ⟨⟨c, -⟩ | ⟨-, -, rfl, rfl⟩, rfl⟩
    · rcases c with c | c
      · exact absurd c (nI_pos (by omega))
      · exact absurd (n_lt 3 kd c) (by omega)
    · refine ⟨upd_eq, ?_, (JW.e0 H0).2⟩
      rcases hp1 with rfl | rfl
      · rw [if_pos rfl]; exact (a7.2.2.2 kd hk4).1.symm
      · rw [if_neg (by decide)]; exact (a7.2.2.2 kd hk4).2.symm
  · rintro E w ⟨rfl, rfl, c⟩
    refine ⟨1, ⟨rfl, rfl⟩, ?_⟩
    rintro x F1 B1 ⟨⟨-, -, rfl⟩ | ⟨d1, d2, -⟩, rfl⟩
    · exact JW.e0 H0
    · exact absurd ⟨d1, fun z => d2 (Int32.lt_of_lt_of_le (by decide) z)⟩ c
