/-! a passing: what its reading and writing leave -/
theorem ln_cnt {B : Nat → Nat → Int32} {x c : Nat} : ∀ n, ∃ m, m ≤ n ∧ mo_ln B (nI x) (nI c) n = nI (c + m) ∧ (m = 0 → ∀ y, y < n → ¬ (¬ B 16 y = 0 ∧ B 18 y = 0 ∧ B 19 y = nI x)) := by
  intro n
  induction n with
  | zero => exact ⟨0, Nat.le_refl _, rfl, fun _ y hy => absurd hy (Nat.not_lt_zero y)⟩
  | succ n ih =>
    obtain ⟨m, c1, c2, c3⟩ := ih
    rw [mo_ln]
    by_cases d : ¬ B 16 n = 0 ∧ B 18 n = 0 ∧ B 19 n = nI x
    · rw [if_pos d, c2, nI_1]
      exact ⟨m + 1, by omega, rfl, fun z => by omega⟩
    · rw [if_neg d]
      refine ⟨m, by omega, c2, fun z y hy => ?_⟩
      by_cases ey : y = n
      · subst ey; exact d
      · exact c3 z y (by omega)
theorem ln_pos {B : Nat → Nat → Int32} {x c : Nat} (hc : c ≤ 1000) (h : mo_ln B (nI x) (nI c) 102 ≤ 0) : c = 0 ∧ ∀ y, y < 102 → ¬ (¬ B 16 y = 0 ∧ B 18 y = 0 ∧ B 19 y = nI x) := by
  obtain ⟨m, m1, m2, m3⟩ := ln_cnt (B := B) (x := x) (c := c) 102
  rw [m2] at h
  have := n_le (c + m) 0 h
  exact ⟨by omega, m3 (by omega)⟩
theorem nbw_up (B : Nat → Nat → Int32) (x : Nat) : ∀ n, nbw B x n ≤ n := by
  intro n
  induction n with
  | zero => exact Nat.le_refl _
  | succ n ih => rw [nbw]; split <;> omega
theorem nbw_pos {B : Nat → Nat → Int32} {x k : Nat} (h : kdI B k = 12) (h2 : B 48 k = nI x) : ∀ n, k < n → 0 < nbw B x n := by
  intro n
  induction n with
  | zero => intro z; omega
  | succ n ih =>
    intro hk
    rw [nbw]
    by_cases e : k = n
    · subst e; rw [if_pos ⟨h, h2⟩]; omega
    · have := ih (by omega)
      split <;> omega
/-- all that a reading leaves -/
theorem rd_all {B : Nat → Nat → Int32} {i NT ni : Nat} {ct dp sz al : Nat → Nat} {pt : Nat → Nat → Nat} {R : Nat → Nat → Prop} (C : RC B i NT ni ct dp pt sz R) (hS : ty_sz B NT ct pt sz al) (hK : ∀ t, t < NT → ¬ B 2 t ≤ 10 → B 2 t = 11 ∨ B 2 t = 12) (h20 : ∀ x, x < 102 → B 20 x = 0 ∧ B 21 x = 0) {tt uu : Nat} {p : Int32} {q : Nat × (Nat → Nat → Int32)} (hr : R tt uu) (h : rd_i (B 4) ct i 5 tt uu p (-1) 0 0 B = .inr q) : q.1 ≤ 200 ∧ mo_sc B q.2 ∧ q.2 44 0 = nI uu ∧ (∀ k, k < q.1 → it_k q.2 NT sz k) ∧ RT B i q.1 q.2 ∧ RP q.2 q.1 := by
  have C0 := C
  obtain ⟨⟨hin, hn6⟩, h8, hW, hD, hF, hRN, hS2, hSS⟩ := C
  obtain ⟨ht, hu⟩ := hRN _ _ hr
  have hi : i < 6 := by omega
  have dp5 := (hW.2.1 tt ht).2.2.2
  obtain ⟨-, g2, -, g4, g5, -, g7⟩ := rd_it hW hD hF hS h8 hi 5 tt uu dp5 ht hu hr p (-1) 0 0 B q (mo_sc.rf _) (by omega) (fun k hk => absurd hk (Nat.not_lt_zero k)) (Or.inl ⟨rfl, rfl⟩) h
  have hT := rd_tree C0 5 tt uu p (-1) 0 0 B q dp5 hr (mo_sc.rf _) (by omega) (fun x hx => (h20 x hx).2) h
  refine ⟨g4, g5, g2, g7, ?_, hT.2.2.2.2.2.2.2.1⟩
  refine rd_prR (P := fun n B' => RT B i n B') hW hD hF h8 hi hRN (fun n B' h => h.1) (fun B' tt uu p ab inn n q hr hp hx => RT.st hW hF h8 hi hRN hK hr hp hx) 5 tt uu p (-1) 0 0 B q hr ⟨mo_sc.rf _, fun x hx hz => absurd (h20 x hx).1 hz, fun k hk => absurd hk (Nat.not_lt_zero k), fun k k' _ hk => absurd hk (Nat.not_lt_zero k')⟩ h
theorem wl_18 {ii J : Nat} : ∀ (m k : Nat) (F : Nat → Int32) (B : Nat → Nat → Int32), (∀ y, B 18 y = 0 ∨ B 18 y = 1) → ∀ y, (wl ii J m k F B).2 18 y = 0 ∨ (wl ii J m k F B).2 18 y = 1 := by
  intro m
  induction m with
  | zero => intro k F B h; exact h
  | succ m ih =>
    intro k F B h
    rw [wl]
    split
    · refine ih _ _ _ (fun y => ?_)
      rcases wi_c F B ii J k (B 44 k).toNatClampNeg (wi_to B k).toNatClampNeg with ⟨e, -⟩ | ⟨-, y', -, -, -, -, -, -, e, -⟩
      · rw [e 18 (by omega)]; exact h y
      · rw [e]
        by_cases q : y = y'
        · rw [q, upd_eq]; split
          · exact Or.inr rfl
          · exact Or.inl rfl
        · rw [upd_ne q]; exact h y
    · exact h
theorem mo_ag.pw {B B' : Nat → Nat → Int32} (a : mo_ag B B') (J pl s : Nat) : mo_ag (pw_B B J pl s) (pw_B B' J pl s) := by
  unfold pw_B
  rw [a 13 (by omega), a 14 (by omega), a 50 (by omega)]
  exact ((a.up rfl).up rfl).up rfl
theorem mo_ag.pe {B B' : Nat → Nat → Int32} (a : mo_ag B B') (z : Prop) [Decidable z] (m : Nat) : mo_ag (pe_B z B m) (pe_B z B' m) := by
  unfold pe_B
  refine ((a.up ?_).up ?_).up ?_
  · funext x; unfold pe_u; rw [a 16 (by omega), a 20 (by omega)]
  · rw [a 20 (by omega)]
  · rw [a 21 (by omega)]
def Fq (F : Nat → Int32) (n : Nat) : Nat → Int32 := upd (upd (ps_F F) 43 (nI n)) 36 (nI 0)
theorem Fq_0 (F : Nat → Int32) (n : Nat) : Fq F n 54 = 0 ∧ Fq F n 52 = 0 := ⟨rfl, rfl⟩
theorem Fq_c {F F' : Nat → Int32} (h : ∀ f, f ≠ 36 → f ≠ 52 → F' f = F f) : Fq F' = Fq F := by
  funext n f
  unfold Fq ps_F
  by_cases e1 : f = 36
  · subst e1; rw [upd_eq, upd_eq]
  rw [upd_ne e1, upd_ne e1]
  by_cases e2 : f = 43
  · subst e2; rw [upd_eq, upd_eq]
  rw [upd_ne e2, upd_ne e2]
  by_cases e3 : f = 52
  · subst e3; rw [upd_eq, upd_eq]
  rw [upd_ne e3, upd_ne e3]
  by_cases e4 : f = 54
  · subst e4; rw [upd_eq, upd_eq]
  rw [upd_ne e4, upd_ne e4, h f e1 e3]
/-- what is left of a passing that failed, on the class's side -/
def TB1 (B B1 : Nat → Nat → Int32) (fr : Nat → Bool) (ni : Nat) : Prop := mo_b8 B1 ∧ (∀ y, 256 * ni ≤ y → B1 13 y = 0) ∧ (∀ y, B1 18 y = 0 ∨ B1 18 y = 1) ∧ (∀ x, ¬ B1 16 x = 0 → fr x = false → ¬ B 16 x = 0 ∧ B1 17 x = B 17 x ∧ B1 18 x = B 18 x) ∧ (∀ x, 102 ≤ x → B1 16 x = 0) ∧ ∀ x, ¬ B1 20 x = 0 → fr x = false
/-- and on the reference's -/
def TB2 (B1 : Nat → Nat → Int32) (fr : Nat → Bool) (B2 : Nat → Nat → Int32) (Fr : Nat) : Prop := (∀ f, f = 13 ∨ f = 17 ∨ f = 18 ∨ f = 23 → B2 f = B1 f) ∧ (∀ x, ¬ B2 16 x = 0 ↔ ¬ B1 16 x = 0) ∧ (∀ x, x < 102 → ¬ B1 16 x = 0 → ((∃ j, j < Fr ∧ (B2 53 j).toNatClampNeg = x) ↔ fr x = true)) ∧ ∀ x, x < 102 → B2 20 x = 0 ∧ B2 21 x = 0
theorem TB1.sc {B B1 : Nat → Nat → Int32} {ni : Nat} (hs : mo_sc B B1) (h8 : mo_b8 B) (h13 : ∀ y, 256 * ni ≤ y → B 13 y = 0) (h18 : ∀ y, B 18 y = 0 ∨ B 18 y = 1) (h16 : ∀ x, 102 ≤ x → B 16 x = 0) : TB1 B B1 fr0 ni := by
  have e : ∀ k, k = 13 ∨ k = 16 ∨ k = 17 ∨ k = 18 → B1 k = B k := fun k hk => hs k (by omega) (by omega) (by omega) (by omega)
  refine ⟨by unfold mo_b8; rw [e 13 (by omega)]; exact h8, by rw [e 13 (by omega)]; exact h13, by rw [e 18 (by omega)]; exact h18, fun x hx _ => ?_, by rw [e 16 (by omega)]; exact h16, fun _ _ => rfl⟩
  rw [e 16 (by omega)] at hx
  exact ⟨hx, by rw [e 17 (by omega)], by rw [e 18 (by omega)]⟩
theorem TB2.sc {B1 B2 : Nat → Nat → Int32} {z : Prop} [Decidable z] (hz : ¬ z) (e : ∀ f, f = 13 ∨ f = 16 ∨ f = 17 ∨ f = 18 ∨ f = 23 → B2 f = B1 f) : TB2 B1 fr0 (pe_B z B2 102) 0 := by
  refine ⟨fun f hf => by rw [pe_un (by omega) (by omega) (by omega)]; exact e f (by omega), fun x => ?_, fun x _ _ => ⟨fun ⟨j, hj, _⟩ => absurd hj (Nat.not_lt_zero j), fun w => absurd w (by unfold fr0; decide)⟩, fun x hx => ⟨pe_20 hx, pe_21 hx⟩⟩
  rw [← e 16 (by omega)]
  by_cases c : x < 102
  · rw [pe_n0 c]; exact ⟨fun w => w.1, fun w => ⟨w, Or.inr hz⟩⟩
  · have : pe_B z B2 102 16 x = B2 16 x := by
      rw [pe_B, va_up_ne _ _ (by decide), va_up_ne _ _ (by decide), va_up_self, pe_u, if_neg c]
    rw [this]
theorem allb_of {B : Nat → Nat → Int32} {ni : Nat} (hn : ni ≤ 6) (h8 : mo_b8 B) (h13 : ∀ y, 256 * ni ≤ y → B 13 y = 0) : allb (B 13) := fun y => by
  rcases Nat.lt_or_ge y 1536 with c | c
  · exact h8 y c
  · exact ⟨0, by omega, h13 y (by omega)⟩
theorem allb.b8 {B : Nat → Nat → Int32} (h : allb (B 13)) : mo_b8 B := fun y _ => h y
theorem zf_out (f : Nat → Int32) (b x : Nat) : ∀ n, ¬ (b ≤ x ∧ x < b + n) → mo_zf f b n x = f x := by
  intro n h
  rw [zf_at, if_neg h]
/-- what a writing leaves: bytes, heap places -/
theorem pv_mem {B : Nat → Nat → Int32} {i J NT ni : Nat} {ct dp sz al : Nat → Nat} {pt : Nat → Nat → Nat} {q : Nat × (Nat → Nat → Int32)} {uu pl : Nat} {F : Nat → Int32} (hn : ni ≤ 6) (hJ : J < ni) (hW : ty_wf B NT ct dp pt) (hD : ty_rd B NT ct) (hS : ty_sz B NT ct pt sz al) (h8 : mo_b8 B) (h13 : ∀ y, 256 * ni ≤ y → B 13 y = 0) (hq : q.1 ≤ 200) (hs : mo_sc B q.2) (h44 : q.2 44 0 = nI uu) (hit : ∀ k, k < q.1 → it_k q.2 NT sz k) (hu : uu < NT) (hle : pl + sz uu ≤ 256) :
    allb ((PVw (Fq F) i J pl (sz uu) q).2 13) ∧ (∀ y, 256 * ni ≤ y → (PVw (Fq F) i J pl (sz uu) q).2 13 y = 0) ∧ (∀ j, j ≠ J → (PVw (Fq F) i J pl (sz uu) q).2 14 j = B 14 j) ∧ ((PVw (Fq F) i J pl (sz uu) q).1 54 = 0 → ∃ hp, hp ≤ 256 ∧ (PVw (Fq F) i J pl (sz uu) q).2 14 J = nI hp) ∧ wr_cd ((PVw (Fq F) i J pl (sz uu) q).1 54) := by
  have sc : ∀ k, k < 20 → q.2 k = B k := fun k hk => hs k (by omega) (by omega) (by omega) (by omega)
  have hW' : ty_wf q.2 NT ct dp pt := hW.co (sc 7 (by omega)) (sc 8 (by omega))
  have hD' : ty_rd q.2 NT ct := by unfold ty_rd; rw [sc 5 (by omega), sc 2 (by omega), sc 4 (by omega)]; exact hD
  have hS' : ty_sz q.2 NT ct pt sz al := by unfold ty_sz; rw [sc 5 (by omega), sc 2 (by omega), sc 4 (by omega), sc 9 (by omega)]; exact hS
  obtain ⟨o1, o2, o3, o4⟩ := wl_out (i := i) (J := J) hW' hD' hS' hq hit q.1 0 (Fq F q.1) (pw_B q.2 J pl (sz uu)) (by omega) rfl (pwB_iv rfl hu h44 hle)
  refine ⟨wl_b _ _ _ _ ?_, fun y hy => ?_, fun j hj => ?_, o3, o4⟩
  · rw [pwB_13, sc 13 (by omega)]; exact (allb_of hn h8 h13).zf _ _
  · rw [PVw, o1 y (by omega), pwB_13, zf_out _ _ _ _ (by omega), sc 13 (by omega)]; exact h13 y hy
  · rw [PVw, o2 j hj, pw_B, va_up_ne _ _ (by decide), va_up_self, upd_ne hj, sc 14 (by omega)]
/-- a writing that failed -/
theorem TB1.wr {B : Nat → Nat → Int32} {i J NT ni : Nat} {ct dp sz al : Nat → Nat} {pt : Nat → Nat → Nat} {q : Nat × (Nat → Nat → Int32)} {uu pl : Nat} {F : Nat → Int32} (hn : ni ≤ 6) (hJ : J < ni) (hW : ty_wf B NT ct dp pt) (hD : ty_rd B NT ct) (hS : ty_sz B NT ct pt sz al) (h8 : mo_b8 B) (h13 : ∀ y, 256 * ni ≤ y → B 13 y = 0) (h18 : ∀ y, B 18 y = 0 ∨ B 18 y = 1) (h16 : ∀ x, 102 ≤ x → B 16 x = 0) (hq : q.1 ≤ 200) (hs : mo_sc B q.2) (h44 : q.2 44 0 = nI uu) (hit : ∀ k, k < q.1 → it_k q.2 NT sz k) (hu : uu < NT) (hle : pl + sz uu ≤ 256) (hR : RT B i q.1 q.2) :
    TB1 B (PVw (Fq F) i J pl (sz uu) q).2 (frB q.2 (PVw (Fq F) i J pl (sz uu) q).2) ni ∧ WL q.2 J (PVw (Fq F) i J pl (sz uu) q).1 (PVw (Fq F) i J pl (sz uu) q).2 := by
  have hJ6 : J < 6 := by omega
  have sc : ∀ k, k < 20 → q.2 k = B k := fun k hk => hs k (by omega) (by omega) (by omega) (by omega)
  obtain ⟨m1, m2, -⟩ := pv_mem (i := i) (F := F) hn hJ hW hD hS h8 h13 hq hs h44 hit hu hle
  have hWL : WL q.2 J (PVw (Fq F) i J pl (sz uu) q).1 (PVw (Fq F) i J pl (sz uu) q).2 := wl_WL hJ6 _ _ _ _ (WL.b0 rfl)
  have w20 : (PVw (Fq F) i J pl (sz uu) q).2 20 = q.2 20 := ((wl_kp i J q.1 0 (Fq F q.1) (pw_B q.2 J pl (sz uu))).1 20 (by decide) (by decide) (by decide) (by decide) (by decide) (by decide) (by decide) (by decide) (by decide)).trans (pwB_ne (by omega) (by omega) (by omega))
  have hWL0 := hWL
  obtain ⟨-, l2, fn, -, -, l4, l5⟩ := hWL0
  refine ⟨⟨m1.b8, m2, wl_18 _ _ _ _ (fun y => by rw [pwB_ne (by omega) (by omega) (by omega), sc 18 (by omega)]; exact h18 y), fun x hx hf => ?_, fun x hx => ?_, fun x hx => ?_⟩, hWL⟩
  · have n0 : ¬ q.2 16 x = 0 := fun w => by
      unfold frB at hf
      rw [decide_eq_true hx, decide_eq_true w] at hf
      exact absurd hf (by decide)
    obtain ⟨c1, c2, c3, -⟩ := l2 x n0
    rw [sc 16 (by omega)] at n0
    exact ⟨n0, by rw [c2, sc 17 (by omega)], by rw [c3, sc 18 (by omega)]⟩
  · refine Decidable.byContradiction fun w => ?_
    by_cases c : q.2 16 x = 0
    · have := (l5 x w c).1; omega
    · rw [sc 16 (by omega)] at c; exact c (h16 x hx)
  · rw [w20] at hx
    unfold frB
    by_cases c : x < 102
    · have := (hR.2.1 x c hx).1
      rw [decide_eq_false this, Bool.and_false]
    · by_cases d : q.2 16 x = 0
      · by_cases e : (PVw (Fq F) i J pl (sz uu) q).2 16 x = 0
        · rw [decide_eq_false (fun w => w e), Bool.false_and]
        · exact absurd (l5 x e d).1 c
      · rw [decide_eq_false d, Bool.and_false]
theorem TB2.wr {Bs0 B1 B2 : Nat → Nat → Int32} {F1 : Nat → Int32} {z : Prop} [Decidable z] {J Fr : Nat} (hz : ¬ z) (a : mo_ag B1 B2) (hWL : WL Bs0 J F1 B1) (hF : F1 52 = nI Fr) (hFr : Fr ≤ 16) : TB2 B1 (frB Bs0 B1) (pe_B z B2 102) Fr := by
  obtain ⟨-, l2, fn, f1, f2, l4, l5⟩ := hWL
  have efn : fn = Fr := n_eq fn Fr (f1.symm.trans hF)
  subst efn
  refine ⟨fun f hf => by rw [pe_un (by omega) (by omega) (by omega)]; exact a f (by omega), fun x => ?_, fun x hx hu => ?_, fun x hx => ⟨pe_20 hx, pe_21 hx⟩⟩
  · rw [← a 16 (by omega)]
    by_cases c : x < 102
    · rw [pe_n0 c]; exact ⟨fun w => w.1, fun w => ⟨w, Or.inr hz⟩⟩
    · have : pe_B z B2 102 16 x = B2 16 x := by
        rw [pe_B, va_up_ne _ _ (by decide), va_up_ne _ _ (by decide), va_up_self, pe_u, if_neg c]
      rw [this]
  · rw [pe_un (by decide) (by decide) (by decide), a 53 (by omega)]
    constructor
    · rintro ⟨j, j1, j2⟩
      obtain ⟨x', e1, e2, e3, e4⟩ := l4 j j1
      rw [e1, nI_clamp (by omega)] at j2
      subst j2
      unfold frB
      rw [decide_eq_true e3, decide_eq_true e4]
      rfl
    · intro w
      unfold frB at w
      rw [Bool.and_eq_true] at w
      obtain ⟨-, j, j1, j2⟩ := l5 x hu (of_decide_eq_true w.2)
      exact ⟨j, j1, by rw [j2, nI_clamp (by omega)]⟩
