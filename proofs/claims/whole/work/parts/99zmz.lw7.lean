/-! from the start to the loop -/
theorem RX.init {hd am N : Nat → Nat} {S : gS} (h : hcI am N S) : RX hd 0 hK0 am N S (upd (fun _ => 0) 35 (-1)) (fun _ _ => 0) := by
  obtain ⟨h0, ⟨g1, g3, g5, g7, g11, g12, g17⟩, ⟨t0, t1⟩, r8, r9⟩ := h
  have no : ∀ {P : Prop} (k : Nat), k < 0 → P := fun k hk => absurd hk (Nat.not_lt_zero k)
  refine ⟨0, 0, 0, 0, 0, 0, fun _ => 0, fun _ => 0, fun _ _ => 0, fun _ => 0, fun _ => 0, fun _ => 0, fun _ => 0, fun _ => 0, fun _ => 0, fun _ => 0, fun _ => 0, fun _ => 0, Nat.le_refl _, ⟨h0, fun k hk => Or.inl ?_⟩, ⟨⟨by decide, fun t ht => no t ht⟩, ⟨g1, rfl⟩, ⟨by decide, fun t ht => no t ht, fun t k ht => no t ht⟩, fun t ht => no t ht, ⟨fun t ht => no t ht, fun t u ht => no t ht⟩, fun t ht => no t ht⟩, ⟨⟨g3, rfl, by decide⟩, fun t ht => no t ht⟩, ⟨⟨g5, rfl, by decide⟩, fun t ht => no t ht, fun j _ => ⟨rfl, Nat.zero_le _⟩, fun j _ => ⟨0, by decide, rfl⟩, fun _ _ => rfl, fun j => ⟨fun _ => rfl, Or.inl rfl⟩⟩, ⟨⟨fun i h hi => no i hi, fun x _ => ⟨rfl, rfl⟩⟩, fun x hx => absurd rfl hx, fun x hx => absurd rfl hx, fun y => Or.inl rfl, fun x hx => absurd rfl hx, fun x y hx => absurd rfl hx, fun x hx => absurd rfl hx⟩, ⟨⟨rfl, g12⟩, fun t ht => no t ht, fun _ _ => rfl, fun kd _ => ⟨r8 kd, r9 kd⟩⟩, ⟨⟨g7, rfl, by decide⟩, fun t ht => no t ht⟩, ⟨⟨g11, rfl, by decide⟩, fun t ht => no t ht, fun k _ hk => no k hk, fun k k' _ hk => no k' hk, fun t ht => no t ht, fun k _ => (show vp_in (nI 0) 6 from vp_in_nI (by decide) (by decide))⟩, t0, t1, g17⟩
  simp only [hK0, List.mem_cons, List.not_mem_nil, or_false] at hk
  omega
theorem ki_hc : ev_kI lw_M (m_hc_init 2 14 688) 87 0 := ⟨lw_gw (fun w h => h) lw_hc (li_w0 (i := 13) rfl) [] (fun w h => absurd h List.not_mem_nil), ⟨_, rfl⟩, lw_ihc, li_w0 (i := 11) rfl, li_w0 (i := 12) rfl, rfl, pn_hc.1, pn_hc.2, by decide +kernel⟩
theorem ki_mo : ev_kI lw_M m_mo_init 90 0 := ⟨lw_gw (fun w h => h) lw_mi (li_w0 (i := 16) rfl) [] (fun w h => absurd h List.not_mem_nil), ⟨_, rfl⟩, lw_imo, li_w0 (i := 14) rfl, li_w0 (i := 15) rfl, rfl, pn_mo.1, pn_mo.2, by decide +kernel⟩
theorem lw_al : Cond.arrayClass .long ∈ lw_ws := lw_hc _ (hc_inl (i := 41) rfl)
def S00 : gS := (fun _ _ => .null, fun _ _ => 0, fun _ _ => none, fun _ _ => 0)
set_option maxHeartbeats 4000000 in
set_option maxRecDepth 100000 in
theorem lw_main {l : Launch} {D : va_G} {Z : (Nat → Prop) → State → Heap → Prop} {ks : Nat → ClassId} {hd : Nat → Nat} {ta tz b L : Nat} {xs : Nat → Int32} {E : ev_T} (H : lw_H l Z hd ta tz b L xs) (hL : L ≤ 3072) (hE : ∀ (cells slots : Nat) (lv : List (Option Value)) (ws : va_W), cells ≤ 601024 → slots ≤ 7293034 → EV (hc_π l D ks [] Z) lw_M E cells slots 1456 lv [] ws) : EV (hc_π l D ks [] Z) lw_M E 0 0 0 [some (.ref b), none, none, none, none, none, none] [] [] := by
  have H0 := H
  obtain ⟨hl, hzx, hZ, hNw, hAO, hST, hZ9, hDi, hnc, hzs⟩ := H
  refine ev_eq (ws' := gw [] (fun _ => 0) ks (fun _ => 0) S00) ?_
  refine gw_newO (C := R_hc) (T := T_hc) (c := 0) (ty := t_hc) 0 0 d_lw_law_0 (fun w h => lw_hc w (List.mem_append_right _ (List.mem_append_left _ (List.mem_append_left _ h)))) t_hc_ok (li_w0 (i := 6) rfl) (li_w0 (i := 7) rfl) lw_ihc rfl List.not_mem_nil rfl (by decide) (by decide) (fun q => ?_)
  refine ev_dup_a 3 d_lw_law_3 ?_
  refine ev_callI (mc := 14) (ms := 688) 4 [] [.ref q] d_lw_law_4 hZ ki_hc ⟨rfl, rfl, ⟨by decide, by decide⟩, by decide, by decide⟩ (ht_hc_init (K := []) (am := va_up (fun _ => 0) 0 q) (k := 2) hZ hNw hAO (by decide)) (fun r w hw => ?_)
  obtain ⟨rfl, am1, N1, S1, e1, rfl, hI⟩ := hw
  refine ev_eq (st' := [.ref q]) ?_
  refine ev_astore_1 7 d_lw_law_7 ?_ (hn := by exact Nat.le_of_ble_eq_true rfl)
  refine ev_new (C := R_mo) (T := T_mo) (N := 60) (ci := 9) (ty := t_mo) (fs := (List.range 60).map (fun j => defaultValue (t_mo j))) 8 d_lw_law_8 (fun w h => lw_mo w (List.mem_append_right _ h)) t_mo_ok (li_w0 (i := 8) rfl) (li_w0 (i := 9) rfl) lw_imo rfl (gO_D (f := fun j => defaultValue (t_mo j))) (by decide) (by decide) (fun q2 _ => ?_)
  refine ev_swap ?_
  refine ev_eq (ws' := mp_W 0 (fun _ => q2) (ks 0) (ks 1) (fun _ => 0) ++ gw hK0 am1 ks N1 S1) ?_ (h3 := by rw [mp_W, mp_0]; rfl)
  refine ev_dup_a 11 d_lw_law_11 ?_
  refine ev_callI (mc := 42) (ms := 6850) 12 [] [.ref q2] d_lw_law_12 hZ ki_mo ⟨rfl, rfl, ⟨by decide, by decide⟩, by decide, by decide⟩ (mt_frame hZ (mt_init (am := fun _ => q2)) (gw hK0 am1 ks N1 S1)) (fun r w hw => ?_)
  obtain ⟨w2, rfl, rfl, bm, e2, rfl⟩ := hw
  have e3 : bm 60 = q2 := e2
  subst e3
  refine ev_eq (st' := [.ref (bm 60)]) ?_
  refine ev_astore_2 15 d_lw_law_15 ?_ (hn := by exact Nat.le_of_ble_eq_true rfl)
  refine ev_iconst_1 16 d_lw_law_16 ?_
  refine ev_newa (atype := .long) (ty := .long) (N' := 1) (a0 := (1, .inr (.inl (fun _ => 0)))) 17 2 d_lw_law_17 lw_al rfl rfl (fun _ => rfl) (by decide) (by decide) (by decide) (by decide) (by decide) (fun oq _ => ?_)
  refine ev_astore_3 19 d_lw_law_19 ?_ (hn := by exact Nat.le_of_ble_eq_true rfl)
  refine ev_iconst_0 20 d_lw_law_20 ?_
  refine ev_istore_4 21 d_lw_law_21 ?_ (hn := by exact Nat.le_of_ble_eq_true rfl)
  refine ev_eq (ws' := mo_W mo_ci bm (ks 0) (ks 1) (upd (fun _ => 0) 35 (-1)) (fun _ _ => 0) ++ (gw hK0 am1 ks N1 S1 ++ [lw_o ks oq (fun _ => 0)])) ?_ (h3 := List.append_assoc _ _ _)
  refine ev_swap ?_
  refine ev_wd (k := 100) (n := 10000) (by decide) (by decide) ?_
  exact ev_eq (lw_loop H0 hL (C0 := 100) (S0 := 10000) (x := q) (bm := bm) (oq := oq) (by decide) (by decide) hE 600 0 hK0 am1 N1 S1 (fun _ => 0) _ _ (by omega) (by decide) (e1.trans (va_up_self _ _ _)) (RX.init hI))
