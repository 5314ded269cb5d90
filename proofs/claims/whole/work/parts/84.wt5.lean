/-! writing an item: pure rows -/
theorem pc_by {pl mn j : Nat} (hp : pl < 65536) (hm : mn ≤ 65535) (hj : j < 4) : hb_by (lN (pl + mn * 65536)) j = if j < 2 then (nI pl >>> ((8 * nI j) &&& 31)) &&& 255 else (nI mn >>> ((8 * nI (j - 2)) &&& 31)) &&& 255 := by
  rw [by_byte (by omega) (by omega)]
  obtain rfl | rfl | rfl | rfl : j = 0 ∨ j = 1 ∨ j = 2 ∨ j = 3 := by omega
  · rw [if_pos (by decide), pb_v (by omega) (by decide)]
    congr 1
    omega
  · rw [if_pos (by decide), pb_v (by omega) (by decide)]
    congr 1
    omega
  · rw [if_neg (by decide), pb_v (by omega) (by decide)]
    congr 1
    omega
  · rw [if_neg (by decide), pb_v (by omega) (by decide)]
    congr 1
    omega
/-- a place and a number, and the room that they name -/
def pc_f (f : Nat → Int32) (J to pl k mn : Nat) : Nat → Int32 := mo_pb (mo_pb (mo_zf f (256 * J + pl) k) (256 * J + to) (nI pl) 2) (256 * J + (to + 2)) (nI mn) 2
theorem pc_out {f : Nat → Int32} {J to pl k mn y : Nat} (h1 : to + 4 ≤ 256) (h2 : pl + k ≤ 256) (hy : ¬ (256 * J ≤ y ∧ y < 256 * J + 256)) : pc_f f J to pl k mn y = f y := by
  rw [pc_f, pb_at, if_neg (by omega), pb_at, if_neg (by omega), zf_at, if_neg (by omega)]
theorem me_pc {S : gS} {B : Nat → Nat → Int32} {J to pl k mn : Nat} (hM : me_R S B J) (h1 : to + 4 ≤ 256) (h2 : pl + k ≤ 256) (hm : mn ≤ 65535) : ∀ x, x < 256 → (hb_sb (wrm S J pl k) (201 + 20 * J) to (lN (pl + mn * 65536)) 4).2.1 (201 + 20 * J) x = pc_f (B 13) J to pl k mn (256 * J + x) := by
  intro x hx
  have e0 : (wrm S J pl k).2.1 = (wz S (201 + 20 * J) pl k).2.1 := rfl
  rw [hsb_at, e0, wz_at, pc_f, pb_at, pb_at, zf_at]
  by_cases c : to ≤ x ∧ x < to + 4
  · rw [if_pos c, pc_by (by omega) hm (by omega)]
    by_cases d : x - to < 2
    · rw [if_pos d, if_neg (by omega), if_pos (by omega), show 256 * J + x - (256 * J + to) = x - to by omega]
    · rw [if_neg d, if_pos (by omega), show 256 * J + x - (256 * J + (to + 2)) = x - to - 2 by omega]
  · rw [if_neg c]
    by_cases d : pl ≤ x ∧ x < pl + k
    · rw [if_pos d, if_neg (by omega), if_neg (by omega), if_pos (by omega)]
    · rw [if_neg d, if_neg (by omega), if_neg (by omega), if_neg (by omega)]
      exact hM x hx
theorem wl_no {F : Nat → Int32} {B : Nat → Nat → Int32} {ii J it to hp k al mn fr : Nat} {tx : Prop} {dx : Decidable tx} (h : 256 < mo_ut hp al + k) : wi_l F B ii J it to hp k al mn fr tx = (mo_fl F 11 (nI (mo_ut hp al)), va_up (wi_t B it to) 51 (upd (B 51) it 0)) := by rw [wi_l, if_pos h]
theorem wl_ok {F : Nat → Int32} {B : Nat → Nat → Int32} {ii J it to hp k al mn fr : Nat} {tx : Prop} {dx : Decidable tx} (h : mo_ut hp al + k ≤ 256) : (wi_l F B ii J it to hp k al mn fr tx).1 = F ∧ (wi_l F B ii J it to hp k al mn fr tx).2 13 = wi_f B ii J to (mo_ut hp al) k mn fr tx ∧ (wi_l F B ii J it to hp k al mn fr tx).2 14 = upd (B 14) J (nI (mo_ut hp al + k)) ∧ (wi_l F B ii J it to hp k al mn fr tx).2 50 = upd (B 50) it (nI to) ∧ (wi_l F B ii J it to hp k al mn fr tx).2 51 = upd (B 51) it (nI (mo_ut hp al)) ∧ ∀ f, f ≠ 13 → f ≠ 14 → f ≠ 50 → f ≠ 51 → (wi_l F B ii J it to hp k al mn fr tx).2 f = B f := by
  rw [wi_l, if_neg (by omega)]
  dsimp only
  refine ⟨rfl, va_up_self _ _ _, ?_, ?_, ?_, fun f h1 h2 h3 h4 => ?_⟩
  · rw [va_up_ne _ _ (by decide), va_up_ne _ _ (by decide), va_up_self]
  · rw [va_up_ne _ _ (by decide), va_up_ne _ _ (by decide), va_up_ne _ _ (by decide), va_up_ne _ _ (by decide), wi_t, va_up_self]
  · rw [va_up_ne _ _ (by decide), va_up_self]
  · rw [va_up_ne _ _ h1, va_up_ne _ _ h4, va_up_ne _ _ h2, va_up_ne _ _ h1, wi_t, va_up_ne _ _ h3]
theorem mo_fl54 {F : Nat → Int32} (h : F 54 = 0) (c p : Int32) : mo_fl F c p 54 = c ∧ mo_fl F c p 55 = p := by
  refine ⟨mo_fl1 h c p, ?_⟩
  unfold mo_fl
  rw [if_pos h]
  first | rfl | (simp [upd])
theorem WM.s0 {am hd : Nat → Nat} {S : gS} {Bs B : Nat → Nat → Int32} {i J ni : Nat} {v : Value} (h : WM am hd S Bs B i J ni) (hn : ni ≤ 6) : WM am hd (gsG S 16 4 v) Bs B i J ni := by
  obtain ⟨h1, h2, h3, h4⟩ := h
  exact ⟨h1, (gsG_nj (Or.inl (by omega))).trans h2, h3.s hn (fun k j hg => gsG_nj (Or.inl (fun z => by rw [z] at hg; exact absurd hg (by decide)))), h4⟩
/-- bytes, heap and scratch tables alone have changed -/
theorem WM.by {am hd : Nat → Nat} {S S' : gS} {Bs B B' : Nat → Nat → Int32} {i J ni hp' : Nat} (h : WM am hd S Bs B i J ni) (hn : ni ≤ 6) (hJ : me_R S' B' J) (hS : ∀ k, k ≠ 201 + 20 * J → S'.2.1 k = S.2.1 k) (hB : ∀ y, ¬ (256 * J ≤ y ∧ y < 256 * J + 256) → B' 13 y = B 13 y) (hiJ : i ≠ J) (hh : S'.1 (200 + 20 * J) 2 = .int (nI hp')) (h14 : B' 14 J = nI hp') (hG : ∀ k j, gk k = 4 → S'.1 k j = S.1 k j) (e : ∀ f, f = 16 ∨ f = 17 ∨ f = 18 ∨ f = 19 ∨ f = 20 ∨ f = 23 → B' f = B f) : WM am hd S' Bs B' i J ni := by
  obtain ⟨h1, h2, h3, h4, h5, h6, h7⟩ := h
  refine ⟨me_all h1 hS hB hJ, by rw [h14]; exact hh, HA.fb (h3.s hn hG) e, fun a ha => ?_, ?_, ?_, ?_⟩
  · rw [hB _ (by omega)]; exact h4 a ha
  · rw [e 16 (by omega)]; exact h5
  · rw [e 16 (by omega)]; exact h6
  · rw [e 20 (by omega)]; exact h7
theorem nk5 {J : Nat} (hJ : J < 6) {k : Nat} (hg : gk k = 4) : k ≠ 200 + 20 * J := fun z => by
  rw [z, (gk_in J hJ).1] at hg
  exact absurd hg (by decide)
/-- a list's room -/
theorem WM.li {am hd : Nat → Nat} {S : gS} {Bs B : Nat → Nat → Int32} {F : Nat → Int32} {i J ni it to hp k al mn fr : Nat} (h : WM am hd S Bs B i J ni) (hn : ni ≤ 6) (hJ6 : J < 6) (hJ : J < ni) (hiJ : i ≠ J) (hto : to + 4 ≤ 256) (hm : mn ≤ 65535) (hle : mo_ut hp al + k ≤ 256) : WM am hd (hb_sb (wrm S J (mo_ut hp al) k) (201 + 20 * J) to (lN (mo_ut hp al + mn * 65536)) 4) Bs (wi_l F B i J it to hp k al mn fr False).2 i J ni := by
  obtain ⟨-, w13, w14, -, -, wf⟩ := wl_ok (F := F) (B := B) (ii := i) (J := J) (it := it) (to := to) (mn := mn) (fr := fr) (tx := False) (dx := instDecidableFalse) hle
  have e13 : wi_f B i J to (mo_ut hp al) k mn fr False = pc_f (B 13) J to (mo_ut hp al) k mn := by rw [wi_f, if_neg (fun z => z)]; rfl
  have kk : wkp J S (hb_sb (wrm S J (mo_ut hp al) k) (201 + 20 * J) to (lN (mo_ut hp al + mn * 65536)) 4) := wsb_k (wrm_k (wkp.rf J S))
  refine h.by hn (fun x hx => ?_) kk.2.1 (fun y hy => ?_) hiJ (hp' := mo_ut hp al + k) ?_ ?_ (fun q j hg => ?_) (fun f hf => wf f (by omega) (by omega) (by omega) (by omega))
  · rw [me_pc (h.1 J hJ) hto hle hm x hx, w13, e13]
  · rw [w13, e13, pc_out hto hle hy]
  · rw [(hsb_1 _ _ _ _ _).1]; exact gsG_eq _ _ _ _
  · rw [w14, upd_eq]
  · rw [(hsb_1 _ _ _ _ _).1, wrm, gsG_nj (Or.inl (nk5 hJ6 hg)), (wz_1 _ _ _ _).1]
/-- a text -/
theorem WM.te {am hd : Nat → Nat} {S : gS} {Bs B : Nat → Nat → Int32} {F : Nat → Int32} {i J ni it to hp mn fr : Nat} (h : WM am hd S Bs B i J ni) (hn : ni ≤ 6) (hJ6 : J < 6) (hJ : J < ni) (hin : i < ni) (hiJ : i ≠ J) (hto : to + 4 ≤ 256) (hm : mn ≤ 65535) (hle : mo_ut hp 1 + mn ≤ 256) (hfm : mn = 0 ∨ fr + mn ≤ 256) : WM am hd (wcp (hb_sb (wrm S J (mo_ut hp 1) mn) (201 + 20 * J) to (lN (mo_ut hp 1 + mn * 65536)) 4) (201 + 20 * J) (201 + 20 * i) (mo_ut hp 1) fr mn) Bs (wi_l F B i J it to hp mn 1 mn fr True).2 i J ni := by
  obtain ⟨-, w13, w14, -, -, wf⟩ := wl_ok (F := F) (B := B) (ii := i) (J := J) (it := it) (to := to) (mn := mn) (fr := fr) (tx := True) (dx := instDecidableTrue) hle
  have e13 : wi_f B i J to (mo_ut hp 1) mn mn fr True = mo_cp (pc_f (B 13) J to (mo_ut hp 1) mn mn) (256 * i + fr) (256 * J + mo_ut hp 1) mn := by rw [wi_f, if_pos trivial]; rfl
  have kk : wkp J S (wcp (hb_sb (wrm S J (mo_ut hp 1) mn) (201 + 20 * J) to (lN (mo_ut hp 1 + mn * 65536)) 4) (201 + 20 * J) (201 + 20 * i) (mo_ut hp 1) fr mn) := wcp_k (wsb_k (wrm_k (wkp.rf J S)))
  have k0 : wkp J S (hb_sb (wrm S J (mo_ut hp 1) mn) (201 + 20 * J) to (lN (mo_ut hp 1 + mn * 65536)) 4) := wsb_k (wrm_k (wkp.rf J S))
  have dis : mn = 0 ∨ (256 * i + fr + mn ≤ 256 * J + mo_ut hp 1 ∨ 256 * J + mo_ut hp 1 + mn ≤ 256 * i + fr) := by
    rcases hfm with z | z
    · exact Or.inl z
    · right
      rcases Nat.lt_or_gt_of_ne hiJ with c | c
      · left; omega
      · right; omega
  have cpx : ∀ y, mo_cp (pc_f (B 13) J to (mo_ut hp 1) mn mn) (256 * i + fr) (256 * J + mo_ut hp 1) mn y = if 256 * J + mo_ut hp 1 ≤ y ∧ y < 256 * J + mo_ut hp 1 + mn then pc_f (B 13) J to (mo_ut hp 1) mn mn (256 * i + fr + (y - (256 * J + mo_ut hp 1))) else pc_f (B 13) J to (mo_ut hp 1) mn mn y := fun y => by
    rcases dis with z | z
    · subst z
      rw [if_neg (by omega)]
      rfl
    · exact cp_at _ _ _ _ _ z
  refine h.by hn (fun x hx => ?_) kk.2.1 (fun y hy => ?_) hiJ (hp' := mo_ut hp 1 + mn) ?_ ?_ (fun q j hg => ?_) (fun f hf => wf f (by omega) (by omega) (by omega) (by omega))
  · rw [w13, e13, cpx, wcp_at]
    by_cases c : mo_ut hp 1 ≤ x ∧ x < mo_ut hp 1 + mn
    · rw [if_pos c, if_pos (by omega), k0.2.1 _ (by omega), pc_out hto hle (by omega), show 256 * i + fr + (256 * J + x - (256 * J + mo_ut hp 1)) = 256 * i + (fr + (x - mo_ut hp 1)) by omega]
      exact h.1 i hin _ (by omega)
    · rw [if_neg c, if_neg (by omega)]
      exact me_pc (h.1 J hJ) hto hle hm x hx
  · rw [w13, e13, cpx, if_neg (by omega), pc_out hto hle hy]
  · rw [(wcp_1 _ _ _ _ _ _).1, (hsb_1 _ _ _ _ _).1]; exact gsG_eq _ _ _ _
  · rw [w14, upd_eq]
  · rw [(wcp_1 _ _ _ _ _ _).1, (hsb_1 _ _ _ _ _).1, wrm, gsG_nj (Or.inl (nk5 hJ6 hg)), (wz_1 _ _ _ _).1]
/-- bytes as they were with the sender -/
theorem WM.pl {am hd : Nat → Nat} {S : gS} {Bs B B' : Nat → Nat → Int32} {i J ni to pp m : Nat} {w : Int64} {hp' : Nat} (h : WM am hd S Bs B i J ni) (hn : ni ≤ 6) (hJ6 : J < 6) (hJ : J < ni) (hiJ : i ≠ J) (hto : to + m ≤ 256) (hpp : pp + m ≤ 256) (hw : ∀ j, j < m → hb_by w j = B 13 (256 * i + pp + j)) (e13 : B' 13 = mo_cp (B 13) (256 * i + pp) (256 * J + to) m) (h14 : B 14 J = nI hp') (e : ∀ f, f = 14 ∨ f = 16 ∨ f = 17 ∨ f = 18 ∨ f = 19 ∨ f = 20 ∨ f = 23 → B' f = B f) : WM am hd (hb_sb S (201 + 20 * J) to w m) Bs B' i J ni := by
  have dis : 256 * i + pp + m ≤ 256 * J + to ∨ 256 * J + to + m ≤ 256 * i + pp := by
    rcases Nat.lt_or_gt_of_ne hiJ with c | c
    · left; omega
    · right; omega
  refine h.by hn (fun x hx => ?_) (fun q hq => hsb_ne S _ to w hq m) (fun y hy => ?_) hiJ (hp' := hp') ?_ ?_ (fun q j hg => ?_) (fun f hf => e f (by omega))
  · rw [hsb_at, e13, cp_at _ _ _ _ _ dis]
    by_cases c : to ≤ x ∧ x < to + m
    · rw [if_pos c, if_pos (by omega), hw _ (by omega), show 256 * J + x - (256 * J + to) = x - to by omega]
    · rw [if_neg c, if_neg (by omega)]
      exact h.1 J hJ x hx
  · rw [e13, cp_at _ _ _ _ _ dis, if_neg (by omega)]
  · rw [(hsb_1 _ _ _ _ _).1, h.2.1, h14]
  · rw [e 14 (by omega)]; exact h14
  · rw [(hsb_1 _ _ _ _ _).1]
