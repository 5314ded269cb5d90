set_option maxHeartbeats 4000000 in
set_option maxRecDepth 100000 in
theorem ht_re_init {l : Launch} {D : va_G} {tl : List (ClassId × FieldType)} {Z : (Nat → Prop) → State → Heap → Prop} {K : List Nat} {am : Nat → Nat} {ks : Nat → ClassId} {N : Nat → Nat} {S : gS} {k : Nat} (a : Nat) (b : Nat) (c : Nat) (hN : va_nd K = true) (hk : 15 ∈ K) (hk1 : 1 ≤ k) : MT (hc_π l D ks tl Z) (m_re_init k 0 0) 0 0 [.ref (am 15), .ref a, .ref b, .ref c] (gw K am ks N S) (fun r w => r = none ∧ w = gw K am ks N (gsG (gsG (gsG (gsG S 15 3 (.long 0)) 15 0 (.ref a)) 15 1 (.ref b)) 15 2 (.ref c))) := by
  refine mt_of pl_re rfl (Nat.le_of_ble_eq_true rfl) (ev_eq (lv' := [some (.ref (am 15)), some (.ref a), some (.ref b), some (.ref c)]) ?_)
  refine ev_aload_0 0 d_re_init_0 ?_
  refine ev_obj 1 d_re_init_1 ob_re oi_w oc_w (show 1 ≤ k by omega) (show 20 ≤ 40 * k by omega) ?_
  refine ev_aload_0 4 d_re_init_4 ?_
  refine ev_lconst_0 5 d_re_init_5 ?_
  refine gw_put 6 15 3 d_re_init_6 lp_re_9 hN hk rfl rfl rfl ?_
  refine ev_aload_0 9 d_re_init_9 ?_
  refine ev_aload_1 10 d_re_init_10 ?_
  refine gw_putF 11 15 0 d_re_init_11 lf_re_15 rfl hN hk rfl rfl rfl ?_
  refine ev_aload_0 14 d_re_init_14 ?_
  refine ev_aload_2 15 d_re_init_15 ?_
  refine gw_putF 16 15 1 d_re_init_16 lf_re_19 rfl hN hk rfl rfl rfl ?_
  refine ev_aload_0 19 d_re_init_19 ?_
  refine ev_aload_3 20 d_re_init_20 ?_
  refine gw_putF 21 15 2 d_re_init_21 lf_re_23 rfl hN hk rfl rfl rfl ?_
  refine ev_vret 24 d_re_init_24 rfl ?_
  exact ⟨rfl, rfl⟩

set_option maxHeartbeats 4000000 in
set_option maxRecDepth 100000 in
theorem ht_wt_init {l : Launch} {D : va_G} {tl : List (ClassId × FieldType)} {Z : (Nat → Prop) → State → Heap → Prop} {K : List Nat} {am : Nat → Nat} {ks : Nat → ClassId} {N : Nat → Nat} {S : gS} {k : Nat} (a : Nat) (b : Nat) (c : Nat) (d : Nat) (hN : va_nd K = true) (hk : 16 ∈ K) (hk1 : 1 ≤ k) : MT (hc_π l D ks tl Z) (m_wt_init k 0 0) 0 0 [.ref (am 16), .ref a, .ref b, .ref c, .ref d] (gw K am ks N S) (fun r w => r = none ∧ w = gw K am ks N (gsG (gsG (gsG (gsG (gsG S 16 4 (.int 0)) 16 0 (.ref a)) 16 1 (.ref b)) 16 2 (.ref c)) 16 3 (.ref d))) := by
  refine mt_of pl_wt rfl (Nat.le_of_ble_eq_true rfl) (ev_eq (lv' := [some (.ref (am 16)), some (.ref a), some (.ref b), some (.ref c), some (.ref d)]) ?_)
  refine ev_aload_0 0 d_wt_init_0 ?_
  refine ev_obj 1 d_wt_init_1 ob_wt oi_w oc_w (show 1 ≤ k by omega) (show 20 ≤ 40 * k by omega) ?_
  refine ev_aload_0 4 d_wt_init_4 ?_
  refine ev_iconst_0 5 d_wt_init_5 ?_
  refine gw_put 6 16 4 d_wt_init_6 lp_wt_9 hN hk rfl (vp_nar_int _) rfl ?_
  refine ev_aload_0 9 d_wt_init_9 ?_
  refine ev_aload_1 10 d_wt_init_10 ?_
  refine gw_putF 11 16 0 d_wt_init_11 lf_wt_15 rfl hN hk rfl rfl rfl ?_
  refine ev_aload_0 14 d_wt_init_14 ?_
  refine ev_aload_2 15 d_wt_init_15 ?_
  refine gw_putF 16 16 1 d_wt_init_16 lf_wt_19 rfl hN hk rfl rfl rfl ?_
  refine ev_aload_0 19 d_wt_init_19 ?_
  refine ev_aload_3 20 d_wt_init_20 ?_
  refine gw_putF 21 16 2 d_wt_init_21 lf_wt_22 rfl hN hk rfl rfl rfl ?_
  refine ev_aload_0 24 d_wt_init_24 ?_
  refine ev_aload_4 25 d_wt_init_25 ?_
  refine gw_putF 27 16 3 d_wt_init_27 lf_wt_26 rfl hN hk rfl rfl rfl ?_
  refine ev_vret 30 d_wt_init_30 rfl ?_
  exact ⟨rfl, rfl⟩

set_option maxHeartbeats 4000000 in
set_option maxRecDepth 100000 in
theorem ht_wt_placeWritten {l : Launch} {D : va_G} {tl : List (ClassId × FieldType)} {Z : (Nat → Prop) → State → Heap → Prop} {K : List Nat} {am : Nat → Nat} {ks : Nat → ClassId} {N : Nat → Nat} {S : gS} {k : Nat} (u : Nat) {Bs : Nat → Nat → Int32} {i J NT ni n : Nat} {ct dp : Nat → Nat} {pt : Nat → Nat → Nat} {sz al : Nat → Nat} (hd : Nat → Nat) (hZ : ev_Zok Z) (hNw : hc_ZN Z) (hZ9 : ho_Z Z hd) (hDi : ho_D hd) (C : WC Bs i J NT ni n ct dp pt sz al) {F : Nat → Int32} {hp : Nat} (W : ww K am N S i J) (hT : TyR K am N S Bs NT ct pt) (hI : IR S Bs i NT n) (hn4 : S.1 16 4 = .int (nI 0)) (hM : WM am hd S Bs Bs i J ni) (h54 : F 54 = 0) (h52 : F 52 = 0) (hhp : S.1 (200 + 20 * J) 2 = .int (nI hp)) (hp2 : hp ≤ 256) (hu : u < NT) (h44 : Bs 44 0 = nI u) (h46 : Bs 46 0 = -1) (htree : is_t Bs i ct pt sz 5 u 0 n) (hk1 : 1 < k) (hk14 : 14 < k) : MT (hc_π l D ks tl Z) (m_wt_placeWritten k 0 0) 0 0 [.ref (am 16), .ref (am (100 + 3 * u))] (gw K am ks N S) (PW K am N hd ks S Bs F i J NT ni n ct pt sz (mo_ut hp (al u)) (sz u)) := by
  refine mt_of pl_wt rfl (Nat.le_of_ble_eq_true rfl) (ev_eq (lv' := [some (.ref (am 16)), some (.ref (am (100 + 3 * u))), none]) ?_)
  have C0 := C
  obtain ⟨⟨hin, hJn, hn6, hiJ⟩, h8, hW, hD, hS, hAl, hn200, hIt, hln⟩ := C
  have hs0 := hS.1 u hu
  have hut := mo_ut_le hp (al u) (by omega)
  refine ev_aload_0 0 d_wt_placeWritten_0 ?_
  refine ev_aload_1 1 d_wt_placeWritten_1 ?_
  refine gw_get 2 (100 + 3 * u) 8 d_wt_placeWritten_2 lk_wt_30 (hT.k0 hu) (hT.g0 hu) (.int (nI (sz u))) ((hT.f8 hu).trans (by rw [hs0.1])) ?_
  refine ev_aload_1 5 d_wt_placeWritten_5 ?_
  refine gw_get 6 (100 + 3 * u) 7 d_wt_placeWritten_6 lk_wt_35 (hT.k0 hu) (hT.g0 hu) (.int (nI (al u))) ((hT.f7 hu).trans (by rw [hs0.2.2.1])) ?_
  refine gw_callV 9 16 [.int (nI (sz u)), .int (nI (al u))] [] d_wt_placeWritten_9 hZ (kc_wt_38 (k9 := 1) (mc9 := 0) (ms9 := 0)) (hr_of hk1 (by decide) (by decide) (by decide)) (W.1.2 16 (by decide) (by decide)) rfl rfl (ht_wt_makeRoom (sz u) (al u) hZ hNw W hhp hp2 (hAl u hu) (by omega) (by decide)) (fun r9 w9 hw => ?_)
  obtain ⟨y, S9, e1, e2, hb⟩ := hw
  subst e1
  subst e2
  refine ev_eq (st' := [.int y]) ?_
  refine ev_istore_2 12 d_wt_placeWritten_12 ?_ (hn := by exact Nat.le_of_ble_eq_true rfl)
  refine ev_iload_2 13 d_wt_placeWritten_13 ?_
  refine ev_iconst_m1 14 d_wt_placeWritten_14 ?_
  refine ev_icmpeq 15 31 d_wt_placeWritten_15 (fun c15 => ?_) (fun c15 => ?_)
  · obtain ⟨hgt, e9⟩ : 256 < (mo_ut hp (al u)) + sz u ∧ S9 = sp_S S 11 (nI (mo_ut hp (al u))) := by
      rcases hb with ⟨h1, -, h3⟩ | ⟨h1, ey, -⟩
      · exact ⟨h1, h3⟩
      · exact absurd (ey.symm.trans c15) (n_m1n _ (by omega))
    subst e9
    refine ev_iconst_m1 31 d_wt_placeWritten_31 ?_
    refine ev_iret 32 d_wt_placeWritten_32 rfl ?_
    exact ⟨_, _, rfl, rfl, (wkp.rf J S).sp, Or.inl ⟨hgt, rfl, rfl⟩⟩
  · obtain ⟨hle, ey, e9⟩ : (mo_ut hp (al u)) + sz u ≤ 256 ∧ y = nI (mo_ut hp (al u)) ∧ S9 = (wrm S J (mo_ut hp (al u)) (sz u)) := by
      rcases hb with ⟨-, ey, -⟩ | h9
      · exact absurd ey c15
      · exact h9
    subst e9
    subst ey
    have kk : wkp J S (wrm S J (mo_ut hp (al u)) (sz u)) := wrm_k (wkp.rf J S)
    have s1 : ∀ k j, k ≠ 200 + 20 * J → (wrm S J (mo_ut hp (al u)) (sz u)).1 k j = S.1 k j := fun k j hk => by rw [wrm, gsG_nj (Or.inl hk), (wz_1 _ _ _ _).1]
    have W0 := W
    have R1 : WS K am N hd (wrm S J (mo_ut hp (al u)) (sz u)) Bs F (pw_B Bs J (mo_ut hp (al u)) (sz u)) i J NT ni n ct pt sz 0 := ⟨W.wk kk, hT.wk kk, hI.wk kk, by rw [s1 16 4 (by omega)]; exact hn4, pwB_iv h52 hu h44 hle, h54, hM.rm hn6 W.2.2.2.2.2.2 hJn hiJ hle⟩
    have W := R1.1
    refine ev_aload_0 18 d_wt_placeWritten_18 ?_
    refine ev_aload_1 19 d_wt_placeWritten_19 ?_
    refine ev_iload_2 20 d_wt_placeWritten_20 ?_
    refine gw_callV 21 16 [.ref (am (100 + 3 * u)), .int (nI (mo_ut hp (al u)))] [] d_wt_placeWritten_21 hZ (kc_wt_42 (k9 := 14) (mc9 := 0) (ms9 := 0)) (hr_of hk14 (by decide) (by decide) (by decide)) (W.1.2 16 (by decide) (by decide)) rfl rfl (ht_wt_writesItem hd hZ hNw hZ9 hDi C0 5 u 0 n (mo_ut hp (al u)) F (pw_B Bs J (mo_ut hp (al u)) (sz u)) (wrm S J (mo_ut hp (al u)) (sz u)) htree (Nat.le_refl n) hu (pwB_to h46) (by omega) R1) (fun r9 w9 hw => ?_)
    obtain ⟨y2, S2, x1, x2, hk2, hb2⟩ := hw
    subst x1
    subst x2
    refine ev_eq (st' := [.int y2]) ?_
    rw [Nat.sub_zero] at hb2
    refine ev_ifeq 24 31 d_wt_placeWritten_24 (fun c24 => ?_) (fun c24 => ?_)
    · refine ev_iconst_m1 31 d_wt_placeWritten_31 ?_
      refine ev_iret 32 d_wt_placeWritten_32 rfl ?_
      rcases hb2 with ⟨-, ey, -⟩ | ⟨z1, -, z2⟩
      · exact absurd (ey.symm.trans c24) (by decide)
      · exact ⟨_, _, rfl, rfl, kk.tr hk2, Or.inr ⟨hle, Or.inr ⟨z1, rfl, z2⟩⟩⟩
    · refine ev_iload_2 27 d_wt_placeWritten_27 ?_
      refine ev_goto 28 32 d_wt_placeWritten_28 ?_
      refine ev_iret 32 d_wt_placeWritten_32 rfl ?_
      rcases hb2 with ⟨z1, -, z3, z4⟩ | ⟨-, ey, -⟩
      · exact ⟨_, _, rfl, rfl, kk.tr hk2, Or.inr ⟨hle, Or.inl ⟨z1, rfl, (by rw [z3]; funext j9; exact s1 14 j9 (by omega)), z4⟩⟩⟩
      · exact absurd ey c24
