/-! what writing an item comes to, by its kind -/
section WI7
variable {F : Nat → Int32} {B : Nat → Nat → Int32} {ii J it uu to hp mn fr : Nat}
theorem wi_6 (hk : B 2 uu = 6) (h14 : B 14 J = nI hp) (h49 : B 49 it = nI mn) (h48 : B 48 it = nI fr) (a : hp ≤ 256) (b : mn ≤ 65535) (c : fr ≤ 65535) : wi_1 F B ii J it uu to = wi_l F B ii J it to hp mn 1 mn fr True := by
  rw [wi_1, if_pos hk, h14, h49, h48, nI_clamp (by omega), nI_clamp (by omega), nI_clamp (by omega)]
theorem wi_8 {pu szp alp : Nat} (hk : B 2 uu = 8) (h14 : B 14 J = nI hp) (h49 : B 49 it = nI mn) (h8 : B 8 (6 * uu) = nI pu) (h4 : B 4 pu = nI szp) (h5 : B 5 pu = nI alp) (a : hp ≤ 256) (b : mn ≤ 65535) (c : pu < 32) (d : szp ≤ 96) (e : alp ≤ 8) : wi_1 F B ii J it uu to = wi_l F B ii J it to hp (mn * szp) alp mn (B 48 it).toNatClampNeg False := by
  rw [wi_1, if_neg (by rw [hk]; decide), if_pos hk, h14, h49, h8, nI_clamp (show pu < 2 ^ 31 by omega), h4, h5, nI_clamp (by omega), nI_clamp (by omega), nI_clamp (by omega), nI_clamp (by omega)]
theorem wi_9 (hk : B 2 uu = 9) : wi_1 F B ii J it uu to = (F, wi_t B it to) := by
  rw [wi_1, if_neg (by rw [hk]; decide), if_neg (by rw [hk]; decide), if_neg (by rw [hk]; decide), if_pos hk]
theorem wi_10 {pp : Nat} (hk : B 2 uu = 10) (h45 : B 45 it = nI pp) (a : pp < 256) : wi_1 F B ii J it uu to = (F, va_up (wi_t B it to) 13 (mo_cp (B 13) (256 * ii + pp) (256 * J + to) 1)) := by
  rw [wi_1, if_neg (by rw [hk]; decide), if_neg (by rw [hk]; decide), if_neg (by rw [hk]; decide), if_neg (by rw [hk]; decide), h45, nI_clamp (by omega), if_pos hk]
theorem wi_11 (hk : ¬ B 2 uu ≤ 10) : wi_1 F B ii J it uu to = mo_wh F (wi_t B it to) J it := by
  have g : ∀ c : Int32, c ≤ 10 → ¬ B 2 uu = c := fun c hc z => hk (z ▸ hc)
  rw [wi_1, if_neg (g 6 (by decide)), if_neg (g 8 (by decide)), if_pos hk]
theorem wi_p {pp szu : Nat} (k6 : ¬ B 2 uu = 6) (k8 : ¬ B 2 uu = 8) (k9 : ¬ B 2 uu = 9) (k10 : ¬ B 2 uu = 10) (hk : B 2 uu ≤ 10) (h45 : B 45 it = nI pp) (h4 : B 4 uu = nI szu) (a : pp ≤ 256) (b : szu ≤ 96) : wi_1 F B ii J it uu to = (F, va_up (wi_t B it to) 13 (mo_cp (B 13) (256 * ii + pp) (256 * J + to) szu)) := by
  rw [wi_1, if_neg k6, if_neg k8, if_neg (fun z => z hk), if_neg k9, if_neg k10, h45, h4, nI_clamp (by omega), nI_clamp (by omega)]
end WI7
theorem wt_ne {B : Nat → Nat → Int32} {it to f : Nat} (h : f ≠ 50) : wi_t B it to f = B f := va_up_ne B _ h
theorem wt_50 {B : Nat → Nat → Int32} {it to : Nat} : wi_t B it to 50 it = nI to := by rw [wi_t, va_up_self, upd_eq]
theorem WM.wt {am hd : Nat → Nat} {S : gS} {Bs B B' : Nat → Nat → Int32} {i J ni : Nat} (h : WM am hd S Bs B i J ni) (e : ∀ f, f = 13 ∨ f = 14 ∨ f = 16 ∨ f = 17 ∨ f = 18 ∨ f = 19 ∨ f = 20 ∨ f = 23 → B' f = B f) : WM am hd S Bs B' i J ni := by
  obtain ⟨h1, h2, h3, h4, h5, h6, h7⟩ := h
  refine ⟨fun j hj a ha => ?_, by rw [e 14 (by omega)]; exact h2, h3.fb (fun f hf => e f (by omega)), ?_, ?_, ?_, ?_⟩
  · rw [e 13 (by omega)]; exact h1 j hj a ha
  · rw [e 13 (by omega)]; exact h4
  · rw [e 16 (by omega)]; exact h5
  · rw [e 16 (by omega)]; exact h6
  · rw [e 20 (by omega)]; exact h7
theorem wq_n {y : Int32} {P Q P' Q' : Prop} (h : (P ∧ y = 1 ∧ Q) ∨ (P' ∧ y = 0 ∧ Q')) : narrow .boolean (.int y) = .int y := by
  rcases h with ⟨-, rfl, -⟩ | ⟨-, rfl, -⟩ <;> rfl
