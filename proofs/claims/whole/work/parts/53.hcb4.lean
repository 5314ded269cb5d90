/-- the object: its parts -/
def hc_w0 (K : List Nat) (am : Nat → Nat) (N : Nat → Nat) (S : gS) : Prop := (va_nd K = true ∧ ∀ k, k < 15 → k ∈ K) ∧ (N 1 = 32 ∧ N 2 = 6 ∧ N 3 = 6 ∧ N 4 = 12 ∧ N 5 = 6 ∧ N 6 = 6 ∧ N 7 = 6 ∧ N 8 = 4 ∧ N 9 = 4 ∧ N 11 = 200 ∧ N 12 = 200 ∧ N 13 = 200) ∧ S.1 0 0 = .ref (am 1) ∧ S.1 0 2 = .ref (am 2) ∧ S.1 0 4 = .ref (am 3) ∧ S.1 0 6 = .ref (am 4) ∧ S.1 0 8 = .ref (am 5) ∧ S.1 0 9 = .ref (am 6) ∧ S.1 0 10 = .ref (am 7) ∧ S.1 0 13 = .ref (am 8) ∧ S.1 0 14 = .ref (am 9) ∧ S.1 0 15 = .ref (am 10) ∧ S.1 0 16 = .ref (am 14) ∧ S.1 10 0 = .ref (am 11) ∧ S.1 10 1 = .ref (am 12) ∧ S.1 10 2 = .ref (am 13)
theorem gw_callV {l : Launch} {D : va_G} {tl : List (ClassId × FieldType)} {Z : (Nat → Prop) → State → Heap → Prop} {K : List Nat} {am : Nat → Nat} {ks : Nat → ClassId} {N : Nat → Nat} {S : gS} {μ μ' : ev_M} {E : ev_T} {cells slots mc ms : Nat} {lv : List (Option Value)} {st : List Value} {Q' : Option Value → va_W → Prop} {idx c : Nat} {T : u_T} {n : Nat} (pc k0 : Nat) (As rest : List Value) (d : decode μ.2.1 pc = .ok (.invokevirtual idx, 3)) (hZ : ev_Zok Z) (hk : ev_kV μ μ' idx As.length) (hR : ev_kR μ μ' mc ms cells slots) (hkK : k0 ∈ K) (hg : gk k0 = c) (hc : cl_A[c]? = some (μ'.1.cls, T, n)) (hM : MT (hc_π l D ks tl Z) μ' mc ms (.ref (am k0) :: As) (gw K am ks N S) Q')
    (kk : ∀ (r : Option Value) (w : va_W), Q' r w → EV (hc_π l D ks tl Z) μ E (cells + mc) (slots + ms) (pc + 3) lv (r.toList ++ rest) w) (hst : st = As.reverse ++ .ref (am k0) :: rest := by rfl) (hrm : (rest.map fun v => v.category).sum ≤ 8 := by exact Nat.le_of_ble_eq_true rfl) (hc20 : c < 20 := by decide) : EV (hc_π l D ks tl Z) μ E cells slots pc lv st (gw K am ks N S) :=
  ev_callV (fs := (List.range (gnf c)).map (S.1 k0)) pc (K.idxOf k0) As rest d hZ hk hR (by rw [gw_at hkK, gce_o hg hc20]; rfl) hc hM kk hst hrm
theorem gsG_nj {S : gS} {k j k' j' : Nat} {v : Value} (h : k' ≠ k ∨ j' ≠ j) : (gsG S k j v).1 k' j' = S.1 k' j' := up2_nj S.1 v h
/-- the stack grows by one -/
def hs_pu (S : gS) (Lv i : Nat) (f p : Int32) : gS := gsG (gsG (gsA (gsA (gsA S 5 Lv (nI i)) 6 Lv f) 7 Lv p) 0 11 (.int (nI (Lv + 1)))) (200 + 20 * i) 3 (.int 1)
def hs_po (S : gS) (Lv i : Nat) : gS := gsG (gsG (gsG S (200 + 20 * i) 3 (.int 0)) (200 + 20 * i) 2 (.int 128)) 0 11 (.int (nI (Lv - 1)))

set_option maxHeartbeats 4000000 in
set_option maxRecDepth 100000 in
theorem ht_hc_push {l : Launch} {D : va_G} {tl : List (ClassId × FieldType)} {Z : (Nat → Prop) → State → Heap → Prop} {K : List Nat} {am : Nat → Nat} {ks : Nat → ClassId} {N : Nat → Nat} {S : gS} {k : Nat} (i : Nat) (f : Int32) (p : Int32) (h0 : hc_w0 K am N S) (Lv : Nat) (hL : S.1 0 11 = .int (nI Lv)) (hL6 : Lv < 6) (hi : i < 6) (hq : S.2.2.1 3 i = some (am (200 + 20 * i))) (hik : 200 + 20 * i ∈ K) : MT (hc_π l D ks tl Z) (m_hc_push k 0 0) 0 0 [.ref (am 0), .int (nI i), .int f, .int p] (gw K am ks N S) (fun r w => r = none ∧ w = gw K am ks N (hs_pu S Lv i f p)) := by
  refine mt_of pl_hc rfl (Nat.le_of_ble_eq_true rfl) (ev_eq (lv' := [some (.ref (am 0)), some (.int (nI i)), some (.int f), some (.int p)]) ?_)
  refine ev_aload_0 0 d_hc_push_0 ?_
  refine gw_get 1 0 8 d_hc_push_1 lk_hc_43 (h0.1.2 0 (by decide)) rfl (.ref (am 5)) h0.2.2.2.2.2.2.1 ?_
  refine ev_aload_0 4 d_hc_push_4 ?_
  refine gw_get 5 0 11 d_hc_push_5 lk_hc_53 (h0.1.2 0 (by decide)) rfl (.int (nI Lv)) hL ?_
  refine ev_iload_1 8 d_hc_push_8 ?_
  refine gw_ist (j := Lv) 9 5 d_hc_push_9 h0.1.1 (h0.1.2 5 (by decide)) rfl (by rw [h0.2.1.2.2.2.2.1]; omega) (by rw [h0.2.1.2.2.2.2.1]; decide) ?_
  refine ev_aload_0 10 d_hc_push_10 ?_
  refine gw_get 11 0 9 d_hc_push_11 lk_hc_47 (h0.1.2 0 (by decide)) rfl (.ref (am 6)) h0.2.2.2.2.2.2.2.1 ?_
  refine ev_aload_0 14 d_hc_push_14 ?_
  refine gw_get 15 0 11 d_hc_push_15 lk_hc_53 (h0.1.2 0 (by decide)) rfl (.int (nI Lv)) hL ?_
  refine ev_iload_2 18 d_hc_push_18 ?_
  refine gw_ist (j := Lv) 19 6 d_hc_push_19 h0.1.1 (h0.1.2 6 (by decide)) rfl (by rw [h0.2.1.2.2.2.2.2.1]; omega) (by rw [h0.2.1.2.2.2.2.2.1]; decide) ?_
  refine ev_aload_0 20 d_hc_push_20 ?_
  refine gw_get 21 0 10 d_hc_push_21 lk_hc_50 (h0.1.2 0 (by decide)) rfl (.ref (am 7)) h0.2.2.2.2.2.2.2.2.1 ?_
  refine ev_aload_0 24 d_hc_push_24 ?_
  refine gw_get 25 0 11 d_hc_push_25 lk_hc_53 (h0.1.2 0 (by decide)) rfl (.int (nI Lv)) hL ?_
  refine ev_iload_3 28 d_hc_push_28 ?_
  refine gw_ist (j := Lv) 29 7 d_hc_push_29 h0.1.1 (h0.1.2 7 (by decide)) rfl (by rw [h0.2.1.2.2.2.2.2.2.1]; omega) (by rw [h0.2.1.2.2.2.2.2.2.1]; decide) ?_
  refine ev_aload_0 30 d_hc_push_30 ?_
  refine ev_dup_a 31 d_hc_push_31 ?_
  refine gw_get 32 0 11 d_hc_push_32 lk_hc_53 (h0.1.2 0 (by decide)) rfl (.int (nI Lv)) hL ?_
  refine ev_iconst_1 35 d_hc_push_35 ?_
  refine ev_iadd 36 d_hc_push_36 ?_
  refine ev_topi (nI (Lv + 1)) (nI_1 Lv) ?_
  refine gw_put 37 (0) 11 d_hc_push_37 lp_hc_53 h0.1.1 (h0.1.2 0 (by decide)) rfl (vp_nar_int _) rfl ?_
  refine ev_aload_0 40 d_hc_push_40 ?_
  refine gw_get 41 0 4 d_hc_push_41 lk_hc_27 (h0.1.2 0 (by decide)) rfl (.ref (am 3)) (Eq.trans (gsG_nj (Or.inr (by decide))) h0.2.2.2.2.1) ?_
  refine ev_iload_1 44 d_hc_push_44 ?_
  refine gw_qld (j := i) 45 3 d_hc_push_45 (h0.1.2 3 (by decide)) rfl (by rw [h0.2.1.2.2.1]; omega) (by rw [h0.2.1.2.2.1]; decide) _ hq ?_
  refine ev_iconst_1 46 d_hc_push_46 ?_
  refine gw_put 47 (200 + 20 * i) 3 d_hc_push_47 lp_hc_182 h0.1.1 hik (gk_in i hi).1 (vp_nar_int _) rfl ?_
  refine ev_vret 50 d_hc_push_50 rfl ?_
  exact ⟨rfl, rfl⟩

set_option maxHeartbeats 4000000 in
set_option maxRecDepth 100000 in
theorem ht_ha_useR {l : Launch} {D : va_G} {tl : List (ClassId × FieldType)} {Z : (Nat → Prop) → State → Heap → Prop} {K : List Nat} {am : Nat → Nat} {ks : Nat → ClassId} {N : Nat → Nat} {S : gS} {k : Nat} (x : Nat) (a : Int32) (b : Int32) (e : Nat) (z : Nat) (hN : va_nd K = true) (hx : x ∈ K) (hg : gk x = 4) : MT (hc_π l D ks tl Z) (m_ha_use k 0 0) 0 0 [.ref (am x), .int a, .int b, .ref e, .ref z] (gw K am ks N S) (fun r w => r = none ∧ w = gw K am ks N (gsG (gsG (gsG (gsG (gsG S x 0 (.int a)) x 1 (.int b)) x 3 (.ref e)) x 4 (.ref z)) x 2 (.int 0))) := by
  refine mt_of pl_ha rfl (Nat.le_of_ble_eq_true rfl) (ev_eq (lv' := [some (.ref (am x)), some (.int a), some (.int b), some (.ref e), some (.ref z)]) ?_)
  refine ev_aload_0 0 d_ha_use_0 ?_
  refine ev_iload_1 1 d_ha_use_1 ?_
  refine gw_put 2 x 0 d_ha_use_2 lp_ha_9 hN hx hg (vp_nar_int _) rfl ?_
  refine ev_aload_0 5 d_ha_use_5 ?_
  refine ev_iload_2 6 d_ha_use_6 ?_
  refine gw_put 7 x 1 d_ha_use_7 lp_ha_15 hN hx hg (vp_nar_int _) rfl ?_
  refine ev_aload_0 10 d_ha_use_10 ?_
  refine ev_aload_3 11 d_ha_use_11 ?_
  refine gw_put 12 x 3 d_ha_use_12 lp_ha_27 hN hx hg rfl rfl ?_
  refine ev_aload_0 15 d_ha_use_15 ?_
  refine ev_aload_4 16 d_ha_use_16 ?_
  refine gw_put 18 x 4 d_ha_use_18 lp_ha_30 hN hx hg rfl rfl ?_
  refine ev_aload_0 21 d_ha_use_21 ?_
  refine ev_iconst_0 22 d_ha_use_22 ?_
  refine gw_put 23 x 2 d_ha_use_23 lp_ha_18 hN hx hg (vp_nar_int _) rfl ?_
  refine ev_vret 26 d_ha_use_26 rfl ?_
  exact ⟨rfl, rfl⟩

set_option maxHeartbeats 4000000 in
set_option maxRecDepth 100000 in
theorem ht_ha_useN {l : Launch} {D : va_G} {tl : List (ClassId × FieldType)} {Z : (Nat → Prop) → State → Heap → Prop} {K : List Nat} {am : Nat → Nat} {ks : Nat → ClassId} {N : Nat → Nat} {S : gS} {k : Nat} (x : Nat) (a : Int32) (b : Int32) (e : Nat) (hN : va_nd K = true) (hx : x ∈ K) (hg : gk x = 4) : MT (hc_π l D ks tl Z) (m_ha_use k 0 0) 0 0 [.ref (am x), .int a, .int b, .ref e, .null] (gw K am ks N S) (fun r w => r = none ∧ w = gw K am ks N (gsG (gsG (gsG (gsG (gsG S x 0 (.int a)) x 1 (.int b)) x 3 (.ref e)) x 4 (.null)) x 2 (.int 0))) := by
  refine mt_of pl_ha rfl (Nat.le_of_ble_eq_true rfl) (ev_eq (lv' := [some (.ref (am x)), some (.int a), some (.int b), some (.ref e), some (.null)]) ?_)
  refine ev_aload_0 0 d_ha_use_0 ?_
  refine ev_iload_1 1 d_ha_use_1 ?_
  refine gw_put 2 x 0 d_ha_use_2 lp_ha_9 hN hx hg (vp_nar_int _) rfl ?_
  refine ev_aload_0 5 d_ha_use_5 ?_
  refine ev_iload_2 6 d_ha_use_6 ?_
  refine gw_put 7 x 1 d_ha_use_7 lp_ha_15 hN hx hg (vp_nar_int _) rfl ?_
  refine ev_aload_0 10 d_ha_use_10 ?_
  refine ev_aload_3 11 d_ha_use_11 ?_
  refine gw_put 12 x 3 d_ha_use_12 lp_ha_27 hN hx hg rfl rfl ?_
  refine ev_aload_0 15 d_ha_use_15 ?_
  refine ev_aloadN_4 16 d_ha_use_16 ?_
  refine gw_put 18 x 4 d_ha_use_18 lp_ha_30 hN hx hg rfl rfl ?_
  refine ev_aload_0 21 d_ha_use_21 ?_
  refine ev_iconst_0 22 d_ha_use_22 ?_
  refine gw_put 23 x 2 d_ha_use_23 lp_ha_18 hN hx hg (vp_nar_int _) rfl ?_
  refine ev_vret 26 d_ha_use_26 rfl ?_
  exact ⟨rfl, rfl⟩

set_option maxHeartbeats 4000000 in
set_option maxRecDepth 100000 in
theorem ht_hc_pop {l : Launch} {D : va_G} {tl : List (ClassId × FieldType)} {Z : (Nat → Prop) → State → Heap → Prop} {K : List Nat} {am : Nat → Nat} {ks : Nat → ClassId} {N : Nat → Nat} {S : gS} {k : Nat}  (hZ : ev_Zok Z) (h0 : hc_w0 K am N S) (Lv : Nat) (hL : S.1 0 11 = .int (nI Lv)) (hL6 : Lv ≤ 6) (hp : 0 < Lv) (i : Nat) (hi : i < 6) (ht : S.2.1 5 (Lv - 1) = nI i) (hq : S.2.2.1 3 i = some (am (200 + 20 * i))) (hik : 200 + 20 * i ∈ K) (h5k : 5 < k) : MT (hc_π l D ks tl Z) (m_hc_pop k 0 0) 0 0 [.ref (am 0)] (gw K am ks N S) (fun r w => r = none ∧ w = gw K am ks N (hs_po S Lv i)) := by
  refine mt_of pl_hc rfl (Nat.le_of_ble_eq_true rfl) (ev_eq (lv' := [some (.ref (am 0)), none]) ?_)
  refine ev_aload_0 0 d_hc_pop_0 ?_
  refine gw_get 1 0 4 d_hc_pop_1 lk_hc_27 (h0.1.2 0 (by decide)) rfl (.ref (am 3)) h0.2.2.2.2.1 ?_
  refine ev_aload_0 4 d_hc_pop_4 ?_
  refine gw_callV 5 0 [] _ d_hc_pop_5 hZ (kc_hc_203 (k9 := 5) (mc9 := 0) (ms9 := 0)) (hr_of h5k (by decide) (by decide) (by decide)) (h0.1.2 0 (by decide)) rfl rfl (ht_hc_top (h0.1.2 0 (by decide)) Lv hL hL6 (h0.1.2 5 (by decide)) h0.2.1.2.2.2.2.1 h0.2.2.2.2.2.2.1 hp) (fun r w hw => ?_)
  obtain ⟨e1, e2⟩ := hw
  subst e1
  subst e2
  rw [ht]
  refine gw_qld (j := i) 8 3 d_hc_pop_8 (h0.1.2 3 (by decide)) rfl (by rw [h0.2.1.2.2.1]; omega) (by rw [h0.2.1.2.2.1]; decide) _ hq ?_
  refine ev_astore_1 9 d_hc_pop_9 ?_ (hn := by exact Nat.le_of_ble_eq_true rfl)
  refine ev_aload_1 10 d_hc_pop_10 ?_
  refine ev_iconst_0 11 d_hc_pop_11 ?_
  refine gw_put 12 (200 + 20 * i) 3 d_hc_pop_12 lp_hc_182 h0.1.1 hik (gk_in i hi).1 (vp_nar_int _) rfl ?_
  refine ev_aload_1 15 d_hc_pop_15 ?_
  refine ev_sipush (128) 16 d_hc_pop_16 (by decide) ?_
  refine gw_put 19 (200 + 20 * i) 2 d_hc_pop_19 lp_hc_297 h0.1.1 hik (gk_in i hi).1 (vp_nar_int _) rfl ?_
  refine ev_aload_0 22 d_hc_pop_22 ?_
  refine ev_dup_a 23 d_hc_pop_23 ?_
  refine gw_get 24 0 11 d_hc_pop_24 lk_hc_53 (h0.1.2 0 (by decide)) rfl (.int (nI Lv)) ((up2_nj _ _ (Or.inl (by omega))).trans ((up2_nj _ _ (Or.inl (by omega))).trans hL)) ?_
  refine ev_iconst_1 27 d_hc_pop_27 ?_
  refine ev_isub 28 d_hc_pop_28 ?_
  refine ev_topi (nI (Lv - 1)) (n_s1 hp) ?_
  refine gw_put 29 (0) 11 d_hc_pop_29 lp_hc_53 h0.1.1 (h0.1.2 0 (by decide)) rfl (vp_nar_int _) rfl ?_
  refine ev_vret 32 d_hc_pop_32 rfl ?_
  exact ⟨rfl, rfl⟩
