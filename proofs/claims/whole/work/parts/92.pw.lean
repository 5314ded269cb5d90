/-! a writing begins -/
def pw_B (Bs : Nat → Nat → Int32) (J pl s : Nat) : Nat → Nat → Int32 := va_up (va_up (va_up Bs 13 (mo_zf (Bs 13) (256 * J + pl) s)) 14 (upd (Bs 14) J (nI (pl + s)))) 50 (upd (Bs 50) 0 (nI pl))
theorem pwB_ne {Bs : Nat → Nat → Int32} {J pl s f : Nat} (h1 : f ≠ 13) (h2 : f ≠ 14) (h3 : f ≠ 50) : pw_B Bs J pl s f = Bs f := by
  rw [pw_B, va_up_ne _ _ h3, va_up_ne _ _ h2, va_up_ne _ _ h1]
theorem pwB_13 {Bs : Nat → Nat → Int32} {J pl s : Nat} : pw_B Bs J pl s 13 = mo_zf (Bs 13) (256 * J + pl) s := by
  rw [pw_B, va_up_ne _ _ (by decide), va_up_ne _ _ (by decide), va_up_self]
theorem pwB_14 {Bs : Nat → Nat → Int32} {J pl s : Nat} : pw_B Bs J pl s 14 J = nI (pl + s) := by
  rw [pw_B, va_up_ne _ _ (by decide), va_up_self, upd_eq]
theorem pwB_50 {Bs : Nat → Nat → Int32} {J pl s : Nat} : pw_B Bs J pl s 50 0 = nI pl := by
  rw [pw_B, va_up_self, upd_eq]
theorem pwB_iv {Bs : Nat → Nat → Int32} {F : Nat → Int32} {NT J pl u : Nat} {sz : Nat → Nat} (h52 : F 52 = 0) (hu : u < NT) (h44 : Bs 44 0 = nI u) (hle : pl + sz u ≤ 256) : wr_iv Bs NT sz J F (pw_B Bs J pl (sz u)) 0 :=
  ⟨fun f h1 h2 _ _ _ _ h7 _ _ => pwB_ne h1 h2 h7, ⟨pl + sz u, hle, pwB_14⟩, ⟨0, h52, Nat.zero_le _⟩, ⟨pl, u, hu, pwB_50, h44, hle⟩, fun a ha => absurd ha (Nat.not_lt_zero a)⟩
theorem pwB_to {Bs : Nat → Nat → Int32} {J pl s : Nat} (h46 : Bs 46 0 = -1) : wi_to (pw_B Bs J pl s) 0 = nI pl := by
  rw [wi_to, pwB_ne (by decide) (by decide) (by decide), h46, if_pos (by decide)]
  exact pwB_50
theorem frB_s (Bs : Nat → Nat → Int32) : frB Bs Bs = fr0 := by
  funext x
  unfold frB fr0
  by_cases c : Bs 16 x = 0
  · simp [c]
  · simp [c]
/-- what holds when a writing begins, ahead of its first room -/
theorem WM.b0 {am hd : Nat → Nat} {S : gS} {Bs : Nat → Nat → Int32} {i J ni : Nat} (h1 : ∀ j, j < ni → me_R S Bs j) (h2 : S.1 (200 + 20 * J) 2 = .int (Bs 14 J)) (h3 : HA am hd S Bs fr0 (lnB Bs) ni) (h4 : ∀ h, h < 16 → Bs 20 (17 * J + h + 1) = 0) : WM am hd S Bs Bs i J ni :=
  ⟨h1, h2, by rw [frB_s]; exact h3, fun _ _ => rfl, fun _ z => z, fun _ _ => rfl, h4⟩
theorem WM.rm {am hd : Nat → Nat} {S : gS} {Bs : Nat → Nat → Int32} {i J ni pl s : Nat} (h : WM am hd S Bs Bs i J ni) (hn : ni ≤ 6) (hJ6 : J < 6) (hJ : J < ni) (hiJ : i ≠ J) (hle : pl + s ≤ 256) : WM am hd (wrm S J pl s) Bs (pw_B Bs J pl s) i J ni := by
  refine h.by hn (fun x hx => ?_) (fun q hq => wz_ne S _ pl hq s) (fun y hy => ?_) hiJ (hp' := pl + s) (gsG_eq _ _ _ _) pwB_14 (fun q j hg => ?_) (fun f hf => pwB_ne (by omega) (by omega) (by omega))
  · show (wz S (201 + 20 * J) pl s).2.1 (201 + 20 * J) x = _
    rw [wz_at, pwB_13, zf_at]
    by_cases c : pl ≤ x ∧ x < pl + s
    · rw [if_pos c, if_pos (by omega)]
    · rw [if_neg c, if_neg (by omega)]; exact h.1 J hJ x hx
  · rw [pwB_13, zf_at, if_neg (by omega)]
  · rw [wrm, gsG_nj (Or.inl (nk5 hJ6 hg)), (wz_1 _ _ _ _).1]
/-- what placing a value comes to -/
def PW (K : List Nat) (am N hd : Nat → Nat) (ks : Nat → ClassId) (S : gS) (Bs : Nat → Nat → Int32) (F : Nat → Int32) (i J NT ni n : Nat) (ct : Nat → Nat) (pt : Nat → Nat → Nat) (sz : Nat → Nat) (pl s : Nat) (r : Option Value) (w : va_W) : Prop :=
  ∃ y S1, w = gw K am ks N S1 ∧ r = some (.int y) ∧ wkp J S S1 ∧ ((256 < pl + s ∧ y = -1 ∧ S1 = sp_S S 11 (nI pl)) ∨ (pl + s ≤ 256 ∧ (((wl i J n 0 F (pw_B Bs J pl s)).1 54 = 0 ∧ y = nI pl ∧ S1.1 14 = S.1 14 ∧ WS K am N hd S1 Bs (wl i J n 0 F (pw_B Bs J pl s)).1 (wl i J n 0 F (pw_B Bs J pl s)).2 i J NT ni n ct pt sz n) ∨ (¬ (wl i J n 0 F (pw_B Bs J pl s)).1 54 = 0 ∧ y = -1 ∧ S1.1 14 0 = .int ((wl i J n 0 F (pw_B Bs J pl s)).1 54) ∧ S1.1 14 1 = .int ((wl i J n 0 F (pw_B Bs J pl s)).1 55) ∧ (∀ j, j < ni → me_R S1 (wl i J n 0 F (pw_B Bs J pl s)).2 j) ∧ HA am hd S1 (wl i J n 0 F (pw_B Bs J pl s)).2 (frB Bs (wl i J n 0 F (pw_B Bs J pl s)).2) (lnB Bs) ni))))
