set_option maxHeartbeats 4000000 in
set_option maxRecDepth 100000 in
theorem ht_fu_init {l : Launch} {D : va_G} {tl : List (ClassId × FieldType)} {Z : (Nat → Prop) → State → Heap → Prop} {K : List Nat} {am : Nat → Nat} {ks : Nat → ClassId} {N : Nat → Nat} {S : gS} {k : Nat} (f : Nat) (x : Int32) (a : Nat) (b : Nat) (hN : va_nd K = true) (hk : (400 + f) ∈ K) (hg : gk (400 + f) = 2) (hk1 : 1 ≤ k) : MT (hc_π l D ks tl Z) (m_fu_init k 0 0) 0 0 [.ref (am (400 + f)), .int x, .ref a, .ref b] (gw K am ks N S) (fun r w => r = none ∧ w = gw K am ks N (gsG (gsG (gsG S (400 + f) 0 (.int x)) (400 + f) 1 (.ref a)) (400 + f) 2 (.ref b))) := by
  refine mt_of pl_fu rfl (Nat.le_of_ble_eq_true rfl) (ev_eq (lv' := [some (.ref (am (400 + f))), some (.int x), some (.ref a), some (.ref b)]) ?_)
  refine ev_aload_0 0 d_fu_init_0 ?_
  refine ev_obj 1 d_fu_init_1 ob_fu oi_w oc_w (show 1 ≤ k by omega) (show 20 ≤ 40 * k by omega) ?_
  refine ev_aload_0 4 d_fu_init_4 ?_
  refine ev_iload_1 5 d_fu_init_5 ?_
  refine gw_putF 6 (400 + f) 0 d_fu_init_6 lf_fu_7 rfl hN hk hg (vp_nar_int _) rfl ?_
  refine ev_aload_0 9 d_fu_init_9 ?_
  refine ev_aload_2 10 d_fu_init_10 ?_
  refine gw_putF 11 (400 + f) 1 d_fu_init_11 lf_fu_13 rfl hN hk hg rfl rfl ?_
  refine ev_aload_0 14 d_fu_init_14 ?_
  refine ev_aload_3 15 d_fu_init_15 ?_
  refine gw_putF 16 (400 + f) 2 d_fu_init_16 lf_fu_17 rfl hN hk hg rfl rfl ?_
  refine ev_vret 19 d_fu_init_19 rfl ?_
  exact ⟨rfl, rfl⟩

def ha_n (S : gS) (hd : Nat → Nat) (x : Nat) : gS := gsG (gsG (gsG (gsG (gsG S x 0 (.int (-1))) x 1 (.int 0)) x 2 (.int 0)) x 3 (.ref (hd 0))) x 4 .null

set_option maxHeartbeats 4000000 in
set_option maxRecDepth 100000 in
theorem ht_ha_init {l : Launch} {D : va_G} {tl : List (ClassId × FieldType)} {Z : (Nat → Prop) → State → Heap → Prop} {K : List Nat} {am : Nat → Nat} {ks : Nat → ClassId} {N : Nat → Nat} {S : gS} {k : Nat} (x : Nat) (hd : Nat → Nat) (hZ9 : ho_Z Z hd) (hN : va_nd K = true) (hk : x ∈ K) (hg : gk x = 4) (hk1 : 1 ≤ k) : MT (hc_π l D ks tl Z) (m_ha_init k 0 0) 0 0 [.ref (am x)] (gw K am ks N S) (fun r w => r = none ∧ w = gw K am ks N (ha_n S hd x)) := by
  refine mt_of pl_ha rfl (Nat.le_of_ble_eq_true rfl) (ev_eq (lv' := [some (.ref (am x))]) ?_)
  refine ev_aload_0 0 d_ha_init_0 ?_
  refine ev_obj 1 d_ha_init_1 ob_ha oi_w oc_w (show 1 ≤ k by omega) (show 20 ≤ 40 * k by omega) ?_
  refine ev_aload_0 4 d_ha_init_4 ?_
  refine ev_iconst_m1 5 d_ha_init_5 ?_
  refine gw_put 6 x 0 d_ha_init_6 lp_ha_9 hN hk hg (vp_nar_int _) rfl ?_
  refine ev_aload_0 9 d_ha_init_9 ?_
  refine ev_iconst_0 10 d_ha_init_10 ?_
  refine gw_put 11 x 1 d_ha_init_11 lp_ha_15 hN hk hg (vp_nar_int _) rfl ?_
  refine ev_aload_0 14 d_ha_init_14 ?_
  refine ev_iconst_0 15 d_ha_init_15 ?_
  refine gw_put 16 x 2 d_ha_init_16 lp_ha_18 hN hk hg (vp_nar_int _) rfl ?_
  refine ev_aload_0 19 d_ha_init_19 ?_
  refine ev_gets (v := .ref (hd 0)) 20 d_ha_init_20 (fun A s z => hZ9 A s z 0) ls_ha_21 ?_
  refine gw_put 23 x 3 d_ha_init_23 lp_ha_27 hN hk hg rfl rfl ?_
  refine ev_aload_0 26 d_ha_init_26 ?_
  refine ev_null 27 d_ha_init_27 ?_
  refine gw_put 28 x 4 d_ha_init_28 lp_ha_30 hN hk hg rfl rfl ?_
  refine ev_vret 31 d_ha_init_31 rfl ?_
  exact ⟨rfl, rfl⟩

/-- the keys that a new instance brings, with the first n of its handles -/
def inK (i n : Nat) : List Nat := [201 + 20 * i, 202 + 20 * i] ++ (List.range n).map (fun h => 203 + 20 * i + h)
theorem inK_s (i n : Nat) : inK i (n + 1) = inK i n ++ [203 + 20 * i + n] := by
  rw [inK, inK, List.range_succ, List.map_append, List.append_assoc]
  rfl
theorem inK_m {i n k : Nat} : k ∈ inK i n ↔ (201 + 20 * i ≤ k ∧ k < 203 + 20 * i + n) := by
  simp only [inK, List.mem_append, List.mem_cons, List.not_mem_nil, or_false, List.mem_map, List.mem_range]
  constructor
  · rintro ((rfl | rfl) | ⟨h, hh, rfl⟩)
    · omega
    · omega
    · omega
  · intro h
    by_cases a : k = 201 + 20 * i
    · exact Or.inl (Or.inl a)
    · by_cases b : k = 202 + 20 * i
      · exact Or.inl (Or.inr b)
      · exact Or.inr ⟨k - (203 + 20 * i), by omega, by omega⟩
/-- a handle as it is made -/
def ha_0 (hd : Nat → Nat) (S : gS) (x : Nat) : Prop := S.1 x 0 = .int (-1) ∧ S.1 x 1 = .int 0 ∧ S.1 x 2 = .int 0 ∧ S.1 x 3 = .ref (hd 0) ∧ S.1 x 4 = .null
theorem ha_n0 (hd : Nat → Nat) (S : gS) (x : Nat) : ha_0 hd (ha_n S hd x) x := by
  unfold ha_n
  refine ⟨?_, ?_, ?_, ?_, ?_⟩
  · rw [gsG_nj (Or.inr (by decide)), gsG_nj (Or.inr (by decide)), gsG_nj (Or.inr (by decide)), gsG_nj (Or.inr (by decide))]; exact gsG_eq _ _ _ _
  · rw [gsG_nj (Or.inr (by decide)), gsG_nj (Or.inr (by decide)), gsG_nj (Or.inr (by decide))]; exact gsG_eq _ _ _ _
  · rw [gsG_nj (Or.inr (by decide)), gsG_nj (Or.inr (by decide))]; exact gsG_eq _ _ _ _
  · rw [gsG_nj (Or.inr (by decide))]; exact gsG_eq _ _ _ _
  · exact gsG_eq _ _ _ _
theorem ha_nn {hd : Nat → Nat} {S : gS} {x k j : Nat} (h : k ≠ x) : (ha_n S hd x).1 k j = S.1 k j := by
  unfold ha_n
  rw [gsG_nj (Or.inl h), gsG_nj (Or.inl h), gsG_nj (Or.inl h), gsG_nj (Or.inl h), gsG_nj (Or.inl h)]
/-- a new instance with the first n of its handles -/
def inQ (hd : Nat → Nat) (am N : Nat → Nat) (S : gS) (i n : Nat) (am' N' : Nat → Nat) (S' : gS) : Prop :=
  (∀ k, (k < 201 + 20 * i ∨ 219 + 20 * i ≤ k) → am' k = am k) ∧ (N' = va_up (va_up N (201 + 20 * i) 256) (202 + 20 * i) 16) ∧ (∀ k j, (k < 200 + 20 * i ∨ 219 + 20 * i ≤ k) → S'.1 k j = S.1 k j) ∧ (∀ k, k ≠ 201 + 20 * i → S'.2.1 k = S.2.1 k) ∧ (∀ k, k ≠ 202 + 20 * i → S'.2.2.1 k = S.2.2.1 k) ∧ S'.2.2.2 = S.2.2.2
  ∧ S'.1 (200 + 20 * i) 0 = .ref (am' (201 + 20 * i)) ∧ S'.1 (200 + 20 * i) 1 = .ref (am' (202 + 20 * i)) ∧ S'.1 (200 + 20 * i) 2 = .int 128 ∧ S'.1 (200 + 20 * i) 3 = .int 0 ∧ (∀ a, S'.2.1 (201 + 20 * i) a = 0) ∧ ∀ h, h < n → S'.2.2.1 (202 + 20 * i) h = some (am' (203 + 20 * i + h)) ∧ ha_0 hd S' (203 + 20 * i + h)
theorem inQ_s {hd am N : Nat → Nat} {S : gS} {i n q : Nat} {am' N' : Nat → Nat} {S' : gS} (hi : i < 6) (hn : n < 16) (H : inQ hd am N S i n am' N' S') : inQ hd am N S i (n + 1) (va_up am' (203 + 20 * i + n) q) N' (gsQ (ha_n (gsO S' (203 + 20 * i + n) (fun j => defaultValue (t_ha j))) hd (203 + 20 * i + n)) (202 + 20 * i) n (some q)) := by
  obtain ⟨h1, h2, h3, h4, h5, h6, h7, h8, h9, h10, h11, h12⟩ := H
  have g : ∀ k j, k ≠ 203 + 20 * i + n → (gsQ (ha_n (gsO S' (203 + 20 * i + n) (fun j => defaultValue (t_ha j))) hd (203 + 20 * i + n)) (202 + 20 * i) n (some q)).1 k j = S'.1 k j := fun k j hk => by
    show (ha_n (gsO S' (203 + 20 * i + n) (fun j => defaultValue (t_ha j))) hd (203 + 20 * i + n)).1 k j = _
    rw [ha_nn hk]
    show va_up S'.1 (203 + 20 * i + n) _ k j = _
    rw [va_up_ne _ _ hk]
  refine ⟨fun k hk => ?_, h2, fun k j hk => ?_, h4, fun k hk => ?_, h6, ?_, ?_, ?_, ?_, h11, fun h hh => ?_⟩
  · rw [va_up_ne _ _ (by omega)]; exact h1 k hk
  · rw [g k j (by omega)]; exact h3 k j hk
  · show up2 S'.2.2.1 (202 + 20 * i) n (some q) k = _
    rw [up2_ne _ _ hk]; exact h5 k hk
  · rw [g _ 0 (by omega), va_up_ne _ _ (by omega)]; exact h7
  · rw [g _ 1 (by omega), va_up_ne _ _ (by omega)]; exact h8
  · rw [g _ 2 (by omega)]; exact h9
  · rw [g _ 3 (by omega)]; exact h10
  · by_cases e : h = n
    · subst e
      refine ⟨?_, ha_n0 hd _ _⟩
      rw [va_up_self]
      exact up2_eq _ _ _ _
    · obtain ⟨z1, z2⟩ := h12 h (by omega)
      refine ⟨?_, ?_⟩
      · show up2 S'.2.2.1 (202 + 20 * i) n (some q) (202 + 20 * i) h = _
        rw [up2_nj _ _ (Or.inr e), va_up_ne _ _ (by omega)]; exact z1
      · unfold ha_0
        rw [g _ 0 (by omega), g _ 1 (by omega), g _ 2 (by omega), g _ 3 (by omega), g _ 4 (by omega)]
        exact z2

set_option maxHeartbeats 4000000 in
set_option maxRecDepth 100000 in
theorem ht_in_init {l : Launch} {D : va_G} {tl : List (ClassId × FieldType)} {Z : (Nat → Prop) → State → Heap → Prop} {K : List Nat} {am : Nat → Nat} {ks : Nat → ClassId} {N : Nat → Nat} {S : gS} {k : Nat} (i : Nat) (hd : Nat → Nat) (hZ : ev_Zok Z) (hNw : hc_ZN Z) (hAO : hc_AO Z) (hZ9 : ho_Z Z hd) (hi : i < 6) (hN : va_nd K = true) (hk : 200 + 20 * i ∈ K) (hnk : ∀ k, 201 + 20 * i ≤ k → k < 219 + 20 * i → k ∉ K) (hk1 : 1 < k) : MT (hc_π l D ks tl Z) (m_in_init k 18 352) 18 352 [.ref (am (200 + 20 * i))] (gw K am ks N S) (fun r w => r = none ∧ ∃ am' N' S', w = gw (K ++ inK i 16) am' ks N' S' ∧ inQ hd am N S i 16 am' N' S') := by
  refine mt_of pl_in rfl (Nat.le_of_ble_eq_true rfl) (ev_eq (lv' := [some (.ref (am (200 + 20 * i))), none]) ?_)
  have LL : ∀ (m n : Nat) (am' N' : Nat → Nat) (S' : gS), 16 - n < m → n ≤ 16 → va_nd (K ++ inK i n) = true → inQ hd am N S i n am' N' S' → EV (hc_π l D ks tl Z) (m_in_init k 18 352) (ev_E (hc_π l D ks tl Z) 18 352 (fun r w => r = none ∧ ∃ am' N' S', w = gw (K ++ inK i 16) am' ks N' S' ∧ inQ hd am N S i 16 am' N' S')) (2 + n) (272 + 5 * n) 36 [some (.ref (am' (200 + 20 * i))), some (.int (nI n))] [] (gw (K ++ inK i n) am' ks N' S') := by
    intro m
    induction m with
    | zero => intro n _ _ _ z; omega
    | succ m ih =>
      intro n am' N' S' hm hn hnd HQ
      have HQ0 := HQ
      obtain ⟨q1, q2, q3, q4, q5, q6, q7, q8, q9, q10, q11, q12⟩ := HQ0
      have kI : 200 + 20 * i ∈ K ++ inK i n := List.mem_append_left _ hk
      have kH : 202 + 20 * i ∈ K ++ inK i n := List.mem_append_right _ (inK_m.mpr (by omega))
      have n16 : N' (202 + 20 * i) = 16 := by rw [q2, va_up_self]
      refine ev_iload_1 36 d_in_init_36 ?_
      refine ev_bipush (16) 37 d_in_init_37 (by decide) ?_
      refine ev_icmpge 39 61 d_in_init_39 (fun c39 => ?_) (fun c39 => ?_)
      · have h39 : n = 16 := by have := n_le 16 n c39; omega
        subst h39
        refine ev_vret 61 d_in_init_61 rfl ?_
        exact ⟨rfl, am', N', S', rfl, HQ⟩
      · have h39 := n_nle 16 n c39
        refine ev_aload_0 42 d_in_init_42 ?_
        refine gw_get 43 (200 + 20 * i) 1 d_in_init_43 lk_in_17 kI (gk_in i hi).1 (.ref (am' (202 + 20 * i))) q8 ?_
        refine ev_iload_1 46 d_in_init_46 ?_
        have kn : (203 + 20 * i + n) ∉ K ++ inK i n := fun z => (List.mem_append.mp z).elim (hnk (203 + 20 * i + n) (by omega) (by omega)) (fun y => by have := inK_m.mp y; omega)
        refine gw_newO (c := 4) (C := R_ha) (T := T_ha) (ty := t_ha) 47 (203 + 20 * i + n) d_in_init_47 hu_ha t_ha_ok cw_in_15 iw_ha nw_ha rfl kn ((gk_in i hi).2.2.2 n (by omega)) (show 2 + n + 1 ≤ 18 by omega) (show 272 + 5 * n + 5 ≤ 352 by omega) (fun q => ?_)
        rw [List.append_assoc, ← inK_s]
        have hnd2 : va_nd (K ++ inK i (n + 1)) = true := by rw [inK_s, ← List.append_assoc]; exact nd_app hnd kn
        have kq : (203 + 20 * i + n) ∈ K ++ inK i (n + 1) := List.mem_append_right _ (inK_m.mpr (by omega))
        have kH2 : 202 + 20 * i ∈ K ++ inK i (n + 1) := List.mem_append_right _ (inK_m.mpr (by omega))
        obtain ⟨am2, hm2⟩ : ∃ am2, am2 = va_up am' (203 + 20 * i + n) q := ⟨_, rfl⟩
        rw [← hm2]
        have e1 : am2 (200 + 20 * i) = am' (200 + 20 * i) := by rw [hm2, va_up_ne _ _ (by omega)]
        have e2 : am2 (202 + 20 * i) = am' (202 + 20 * i) := by rw [hm2, va_up_ne _ _ (by omega)]
        have e3 : am2 (203 + 20 * i + n) = q := by rw [hm2, va_up_self]
        refine ev_eq (lv' := [some (.ref (am2 (200 + 20 * i))), some (.int (nI n))]) (st' := [.ref (am2 (203 + 20 * i + n)), .int (nI n), .ref (am2 (202 + 20 * i))]) ?_ (h1 := by rw [e1]) (h2 := by rw [e2, e3])
        refine ev_dup_a 50 d_in_init_50 ?_
        refine ev_callIN 51 [] [.ref (am2 (203 + 20 * i + n)), .int (nI n), .ref (am2 (202 + 20 * i))] d_in_init_51 hZ (kn_in_28 (k9 := 1) (mc9 := 0) (ms9 := 0) hNw) rfl rfl (hr_of (by omega) (by decide) (show 2 + n + 1 + 0 ≤ 18 by omega) (show 272 + 5 * n + 5 + 0 ≤ 352 by omega)) (ht_ha_init (203 + 20 * i + n) hd hZ9 hnd2 kq ((gk_in i hi).2.2.2 n (by omega)) (by decide)) (fun r9 w9 hw => ?_)
        obtain ⟨x1, x2⟩ := hw
        subst x1
        subst x2
        refine ev_eq (st' := [.ref (am2 (203 + 20 * i + n)), .int (nI n), .ref (am2 (202 + 20 * i))]) ?_
        refine gw_qst (j := n) (o := (203 + 20 * i + n)) 54 (202 + 20 * i) d_in_init_54 hnd2 kH2 (gk_in i hi).2.2.1 (by rw [n16]; omega) (by rw [n16]; decide) kq 4 ((gk_in i hi).2.2.2 n (by omega)) (by decide) rfl ?_
        refine ev_iinc_1 55 d_in_init_55 ?_ (hn := by exact Nat.le_of_ble_eq_true rfl)
        refine ev_goto 58 36 d_in_init_58 ?_
        have HN := inQ_s (q := q) hi (by omega) HQ
        rw [← hm2] at HN
        exact ev_eq (ih (n + 1) am2 N' _ (by omega) (by omega) hnd2 HN) (h1 := by rw [n_i1]) (h3 := by rw [e3])
  refine ev_aload_0 0 d_in_init_0 ?_
  refine ev_obj 1 d_in_init_1 ob_in oi_w oc_w (show 1 ≤ k by omega) (show 20 ≤ 40 * k by omega) ?_
  refine ev_aload_0 4 d_in_init_4 ?_
  refine ev_sipush (256) 5 d_in_init_5 (by decide) ?_
  have k1n : 201 + 20 * i ∉ K := hnk _ (by omega) (by omega)
  refine gw_newI (n := 256) 8 (201 + 20 * i) d_in_init_8 ac_int k1n (gk_in i hi).2.1 (by decide) (by exact Nat.le_of_ble_eq_true rfl) (by exact Nat.le_of_ble_eq_true rfl) (fun q1 => ?_)
  have hnd1 : va_nd (K ++ [201 + 20 * i]) = true := nd_app hN k1n
  obtain ⟨am1, hm1⟩ : ∃ am1, am1 = va_up am (201 + 20 * i) q1 := ⟨_, rfl⟩
  rw [← hm1]
  have a1 : am1 (200 + 20 * i) = am (200 + 20 * i) := by rw [hm1, va_up_ne _ _ (by omega)]
  have a2 : am1 (201 + 20 * i) = q1 := by rw [hm1, va_up_self]
  have k0 : 200 + 20 * i ∈ K ++ [201 + 20 * i] := List.mem_append_left _ hk
  refine ev_eq (lv' := [some (.ref (am1 (200 + 20 * i))), none]) (st' := [.ref (am1 (201 + 20 * i)), .ref (am1 (200 + 20 * i))]) ?_ (h1 := by rw [a1]) (h2 := by rw [a1, a2])
  refine gw_putF 10 (200 + 20 * i) 0 d_in_init_10 lf_in_9 rfl hnd1 k0 (gk_in i hi).1 rfl rfl ?_
  refine ev_aload_0 13 d_in_init_13 ?_
  refine ev_bipush (16) 14 d_in_init_14 (by decide) ?_
  have k2n : 202 + 20 * i ∉ K ++ [201 + 20 * i] := fun z => (List.mem_append.mp z).elim (hnk _ (by omega) (by omega)) (fun y => by rw [List.mem_singleton] at y; omega)
  refine gw_newQ (n := 16) (c := 24) 16 (202 + 20 * i) d_in_init_16 cw_in_15 (fun s z => (hAO s z).2.2.2) k2n (gk_in i hi).2.2.1 (by decide) (by exact Nat.le_of_ble_eq_true rfl) (by exact Nat.le_of_ble_eq_true rfl) (fun q2 => ?_)
  rw [List.append_assoc]
  have eK : [201 + 20 * i] ++ [202 + 20 * i] = inK i 0 := rfl
  rw [eK]
  have hnd2 : va_nd (K ++ inK i 0) = true := by rw [← eK, ← List.append_assoc]; exact nd_app hnd1 k2n
  obtain ⟨am2, hm2⟩ : ∃ am2, am2 = va_up am1 (202 + 20 * i) q2 := ⟨_, rfl⟩
  rw [← hm2]
  have b1 : am2 (200 + 20 * i) = am1 (200 + 20 * i) := by rw [hm2, va_up_ne _ _ (by omega)]
  have b2 : am2 (202 + 20 * i) = q2 := by rw [hm2, va_up_self]
  have b3 : am2 (201 + 20 * i) = am1 (201 + 20 * i) := by rw [hm2, va_up_ne _ _ (by omega)]
  have k0 : 200 + 20 * i ∈ K ++ inK i 0 := List.mem_append_left _ hk
  refine ev_eq (lv' := [some (.ref (am2 (200 + 20 * i))), none]) (st' := [.ref (am2 (202 + 20 * i)), .ref (am2 (200 + 20 * i))]) ?_ (h1 := by rw [b1]) (h2 := by rw [b1, b2])
  refine gw_putF 19 (200 + 20 * i) 1 d_in_init_19 lf_in_17 rfl hnd2 k0 (gk_in i hi).1 rfl rfl ?_
  refine ev_aload_0 22 d_in_init_22 ?_
  refine ev_sipush (128) 23 d_in_init_23 (by decide) ?_
  refine gw_put 26 (200 + 20 * i) 2 d_in_init_26 lp_in_21 hnd2 k0 (gk_in i hi).1 (vp_nar_int _) rfl ?_
  refine ev_aload_0 29 d_in_init_29 ?_
  refine ev_iconst_0 30 d_in_init_30 ?_
  refine gw_put 31 (200 + 20 * i) 3 d_in_init_31 lp_in_25 hnd2 k0 (gk_in i hi).1 (vp_nar_int _) rfl ?_
  refine ev_iconst_0 34 d_in_init_34 ?_
  refine ev_istore_1 35 d_in_init_35 ?_ (hn := by exact Nat.le_of_ble_eq_true rfl)
  refine ev_eq (LL 17 0 am2 _ _ (by omega) (by omega) hnd2 ?_)
  refine ⟨fun k hk => ?_, rfl, fun k j hk => ?_, fun k hk => ?_, fun k hk => ?_, rfl, ?_, ?_, ?_, ?_, fun a => ?_, fun h hh => absurd hh (Nat.not_lt_zero h)⟩
  · rw [hm2, va_up_ne _ _ (by omega), hm1, va_up_ne _ _ (by omega)]
  · rw [gsG_nj (Or.inl (by omega)), gsG_nj (Or.inl (by omega)), gsG_nj (Or.inl (by omega))]
    exact gsG_nj (S := gsAn S (201 + 20 * i)) (Or.inl (by omega))
  · show va_up S.2.1 (201 + 20 * i) _ k = _
    rw [va_up_ne _ _ hk]
  · show va_up S.2.2.1 (202 + 20 * i) _ k = _
    rw [va_up_ne _ _ hk]
  · rw [gsG_nj (Or.inr (by decide)), gsG_nj (Or.inr (by decide)), gsG_nj (Or.inr (by decide)), b3]
    exact gsG_eq _ _ _ _
  · rw [gsG_nj (Or.inr (by decide)), gsG_nj (Or.inr (by decide))]
    exact gsG_eq _ _ _ _
  · rw [gsG_nj (Or.inr (by decide))]
    exact gsG_eq _ _ _ _
  · exact gsG_eq _ _ _ _
  · show va_up S.2.1 (201 + 20 * i) _ (201 + 20 * i) a = _
    rw [va_up_self]

theorem hndK {K : List Nat} {i : Nat} (h : va_nd K = true) (hk : ∀ k, 201 + 20 * i ≤ k → k < 219 + 20 * i → k ∉ K) : ∀ n, n ≤ 16 → va_nd (K ++ inK i n) = true := by
  intro n
  induction n with
  | zero =>
    intro _
    have e : K ++ inK i 0 = K ++ [201 + 20 * i] ++ [202 + 20 * i] := by rw [List.append_assoc]; rfl
    rw [e]
    refine nd_app (nd_app h (hk _ (by omega) (by omega))) (fun z => (List.mem_append.mp z).elim (hk _ (by omega) (by omega)) (fun y => ?_))
    rw [List.mem_singleton] at y
    omega
  | succ n ih =>
    intro hn
    rw [inK_s, ← List.append_assoc]
    exact nd_app (ih (by omega)) (fun z => (List.mem_append.mp z).elim (hk _ (by omega) (by omega)) (fun y => by have := inK_m.mp y; omega))
/-- the state behind a new instance -/
def ni_S (S2 : gS) (ni q : Nat) : gS := gsG (gsQ S2 3 ni (some q)) 0 5 (.int (nI (ni + 1)))

set_option maxHeartbeats 4000000 in
set_option maxRecDepth 100000 in
theorem hx_hc_instance {l : Launch} {D : va_G} {tl : List (ClassId × FieldType)} {Z : (Nat → Prop) → State → Heap → Prop} {K : List Nat} {am : Nat → Nat} {ks : Nat → ClassId} {N : Nat → Nat} {S : gS} {k : Nat}  (hl : l.stackTraces = false) (hzx : hc_ZX Z) (hZ : ev_Zok Z) (hd : Nat → Nat) (hNw : hc_ZN Z) (hAO : hc_AO Z) (hZ9 : ho_Z Z hd) (h0 : hc_w0 K am N S) {ni : Nat} (hn6 : ni ≤ 6) (e5 : S.1 0 5 = .int (nI ni)) (hnk : ∀ k, 200 + 20 * ni ≤ k → k < 219 + 20 * ni → ni < 6 → k ∉ K) (hk5 : 5 < k) : MX (hc_π l D ks tl Z) (m_hc_instance k 19 356) 19 356 [.ref (am 0)] (gw K am ks N S) (fun r w => ni < 6 ∧ r = some (.int (nI ni)) ∧ ∃ q am2 N2 S2, w = gw (K ++ [(200 + 20 * ni)] ++ inK ni 16) am2 ks N2 (ni_S S2 ni (am2 (200 + 20 * ni))) ∧ inQ hd (va_up am (200 + 20 * ni) q) N (gsO S (200 + 20 * ni) (fun j => defaultValue (t_in j))) ni 16 am2 N2 S2) (fun E w => w = gw K am ks N S ∧ E = "java/lang/IllegalStateException" ∧ ni = 6) := by
  refine mx_of pl_hc rfl (Nat.le_of_ble_eq_true rfl) (ev_eq (lv' := [some (.ref (am 0))]) ?_)
  refine ev_aload_0 0 d_hc_instance_0 ?_
  refine gw_get 1 0 5 d_hc_instance_1 lk_hc_31 (h0.1.2 0 (by decide)) rfl (.int (nI ni)) e5 ?_
  refine ev_bipush (6) 4 d_hc_instance_4 (by decide) ?_
  refine ev_icmplt 6 19 d_hc_instance_6 (fun c6 => ?_) (fun c6 => ?_)
  · have h24 := n_lt ni 6 c6
    have hnk : ∀ k, 200 + 20 * ni ≤ k → k < 219 + 20 * ni → k ∉ K := fun k k1 k2 => hnk k k1 k2 h24
    refine ev_aload_0 19 d_hc_instance_19 ?_
    refine gw_get 20 0 4 d_hc_instance_20 lk_hc_27 (h0.1.2 0 (by decide)) rfl (.ref (am 3)) h0.2.2.2.2.1 ?_
    refine ev_aload_0 23 d_hc_instance_23 ?_
    refine gw_get 24 0 5 d_hc_instance_24 lk_hc_31 (h0.1.2 0 (by decide)) rfl (.int (nI ni)) e5 ?_
    have kn : (200 + 20 * ni) ∉ K := hnk _ (by omega) (by omega)
    refine gw_newO (c := 5) (C := R_in) (T := T_in) (ty := t_in) 27 (200 + 20 * ni) d_hc_instance_27 hu_in t_in_ok cw_hc_25 iw_in nw_in rfl kn (gk_in ni (by omega)).1 (Nat.le_of_ble_eq_true rfl) (Nat.le_of_ble_eq_true rfl) (fun q => ?_)
    have hnd1 : va_nd (K ++ [(200 + 20 * ni)]) = true := nd_app h0.1.1 kn
    obtain ⟨am1, hm1⟩ : ∃ am1, am1 = va_up am (200 + 20 * ni) q := ⟨_, rfl⟩
    rw [← hm1]
    have a1 : ∀ k, k ≠ (200 + 20 * ni) → am1 k = am k := fun k hk => by rw [hm1, va_up_ne _ _ hk]
    have a2 : am1 (200 + 20 * ni) = q := by rw [hm1, va_up_self]
    refine ev_eq (lv' := [some (.ref (am1 0))]) (st' := [.ref (am1 (200 + 20 * ni)), .int (nI ni), .ref (am1 3)]) ?_ (h1 := by rw [a1 0 (by omega)]) (h2 := by rw [a1 3 (by omega), a2])
    refine ev_dup_a 30 d_hc_instance_30 ?_
    refine ev_callI 31 [] [.ref (am1 (200 + 20 * ni)), .int (nI ni), .ref (am1 3)] d_hc_instance_31 hZ (kc_hc_146 (k9 := 2) (mc9 := 18) (ms9 := 352)) (hr_of (by omega) (by decide) (by decide) (by decide)) (ht_in_init ni hd hZ hNw hAO hZ9 h24 hnd1 (List.mem_append_right _ List.mem_cons_self) (fun k k1 k2 z => (List.mem_append.mp z).elim (hnk k (by omega) (by omega)) (fun y => by rw [List.mem_singleton] at y; omega)) (by decide)) (fun r9 w9 hw => ?_)
    obtain ⟨x1, am2, N2, S2, x2, HQ⟩ := hw
    subst x1
    subst x2
    have HQ0 := HQ
    obtain ⟨q1, q2, q3, q4, q5, q6, -⟩ := HQ
    have kk : ∀ k, k ∈ K → k ∈ K ++ [(200 + 20 * ni)] ++ inK ni 16 := fun k hk => List.mem_append_left _ (List.mem_append_left _ hk)
    have hnd2 : va_nd (K ++ [(200 + 20 * ni)] ++ inK ni 16) = true := hndK hnd1 (fun k k1 k2 z => (List.mem_append.mp z).elim (hnk k (by omega) (by omega)) (fun y => by rw [List.mem_singleton] at y; omega)) 16 (Nat.le_refl _)
    have s0 : ∀ j, S2.1 0 j = S.1 0 j := fun j => by rw [q3 0 j (by omega)]; show va_up S.1 (200 + 20 * ni) _ 0 j = _; rw [va_up_ne _ _ (by omega)]
    have kI : (200 + 20 * ni) ∈ K ++ [(200 + 20 * ni)] ++ inK ni 16 := List.mem_append_left _ (List.mem_append_right _ List.mem_cons_self)
    have n3 : N2 3 = 6 := by rw [q2, va_up_ne _ _ (by omega), va_up_ne _ _ (by omega)]; exact h0.2.1.2.2.1
    refine ev_eq (lv' := [some (.ref (am2 0))]) (st' := [.ref (am2 (200 + 20 * ni)), .int (nI ni), .ref (am2 3)]) ?_ (h1 := by rw [q1 0 (by omega)]) (h2 := by rw [q1 3 (by omega), q1 (200 + 20 * ni) (by omega)]; rfl)
    refine gw_qst (j := ni) (o := (200 + 20 * ni)) 34 3 d_hc_instance_34 hnd2 (kk 3 (h0.1.2 3 (by decide))) rfl (by rw [n3]; exact h24) (by rw [n3]; decide) kI 5 (gk_in ni h24).1 (by decide) rfl ?_
    refine ev_aload_0 35 d_hc_instance_35 ?_
    refine ev_dup_a 36 d_hc_instance_36 ?_
    refine gw_get 37 0 5 d_hc_instance_37 lk_hc_31 (kk 0 (h0.1.2 0 (by decide))) rfl (.int (nI ni)) ((s0 5).trans e5) ?_
    refine ev_iconst_1 40 d_hc_instance_40 ?_
    refine ev_iadd 41 d_hc_instance_41 ?_
    refine ev_topi (nI (ni + 1)) (nI_1 ni) ?_
    refine gw_put 42 0 5 d_hc_instance_42 lp_hc_31 hnd2 (kk 0 (h0.1.2 0 (by decide))) rfl (vp_nar_int _) rfl ?_
    refine ev_aload_0 45 d_hc_instance_45 ?_
    refine gw_get 46 0 5 d_hc_instance_46 lk_hc_31 (kk 0 (h0.1.2 0 (by decide))) rfl (.int (nI (ni + 1))) (gsG_eq _ _ _ _) ?_
    refine ev_iconst_1 49 d_hc_instance_49 ?_
    refine ev_isub 50 d_hc_instance_50 ?_
    refine ev_topi (nI ni) (n_s1 (Nat.succ_pos ni)) ?_
    refine ev_pad 19 356 (by exact Nat.le_of_ble_eq_true rfl) (by exact Nat.le_of_ble_eq_true rfl) ?_
    refine ev_toX ?_
    refine ev_iret 51 d_hc_instance_51 rfl ?_
    exact ⟨h24, rfl, q, am2, N2, S2, rfl, hm1 ▸ HQ0⟩
  · have h24 := n_nlt ni 6 c6
    refine gw_thr 9 d_hc_instance_9 d_hc_instance_12 d_hc_instance_13 d_hc_instance_15 d_hc_instance_18 hl hzx tm_144_97 xw_93_97 (by omega) (by exact Nat.le_of_ble_eq_true rfl) (by exact Nat.le_of_ble_eq_true rfl) (by exact Nat.le_of_ble_eq_true rfl) ?_
    exact ⟨rfl, rfl, by omega⟩

/-- the state behind a new function -/
def fn_S (S : gS) (am : Nat → Nat) (nf j a b q : Nat) : gS := gsG (gsQ (gsG (gsG (gsG (gsO S (400 + nf) (fun j => defaultValue (t_fu j))) (400 + nf) 0 (.int (nI j))) (400 + nf) 1 (.ref (am (100 + 3 * a)))) (400 + nf) 2 (.ref (am (100 + 3 * b)))) 4 nf (some q)) 0 7 (.int (nI (nf + 1)))

set_option maxHeartbeats 4000000 in
set_option maxRecDepth 100000 in
theorem hx_hc_function {l : Launch} {D : va_G} {tl : List (ClassId × FieldType)} {Z : (Nat → Prop) → State → Heap → Prop} {K : List Nat} {am : Nat → Nat} {ks : Nat → ClassId} {N : Nat → Nat} {S : gS} {k : Nat} (i : Int32) (a9 : Int32) (b9 : Int32) (hl : l.stackTraces = false) (hzx : hc_ZX Z) (hZ : ev_Zok Z) (h0 : hc_w0 K am N S) {ni : Nat} (hn6 : ni ≤ 6) (e5 : S.1 0 5 = .int (nI ni)) (hins : ∀ i, i < ni → in_ok K am N S i ∧ S.2.2.1 3 i = some (am (200 + 20 * i))) {B : Nat → Nat → Int32} {NT : Nat} {ct : Nat → Nat} {pt : Nat → Nat → Nat} (hT : TyR K am N S B NT ct pt) (e1 : S.1 0 1 = .int (nI NT)) {hb : Nat → Int32} (hhb : ∀ t, t < NT → S.1 (100 + 3 * t) 6 = .int (hb t)) {nf : Nat} (hnf : nf ≤ 12) (e7 : S.1 0 7 = .int (nI nf)) (hnk : nf < 12 → 400 + nf ∉ K) (hk5 : 5 < k) : MX (hc_π l D ks tl Z) (m_hc_function k 1 6) 1 6 [.ref (am 0), .int i, .int a9, .int b9] (gw K am ks N S) (fun r w => ∃ j a b, j < ni ∧ a < NT ∧ b < NT ∧ i = nI j ∧ a9 = nI a ∧ b9 = nI b ∧ hb b = 0 ∧ nf < 12 ∧ r = some (.int (nI nf)) ∧ ∃ q, w = gw (K ++ [(400 + nf)]) (va_up am (400 + nf) q) ks N (fn_S S am nf j a b q)) (fun E w => w = gw K am ks N S ∧ ((E = "java/lang/IllegalArgumentException" ∧ ¬ ((¬ i < 0 ∧ ¬ nI ni ≤ i) ∧ (¬ a9 < 0 ∧ ¬ nI NT ≤ a9) ∧ (¬ b9 < 0 ∧ ¬ nI NT ≤ b9))) ∨ (E = "java/lang/UnsupportedOperationException" ∧ ∃ j a b, j < ni ∧ a < NT ∧ b < NT ∧ i = nI j ∧ a9 = nI a ∧ b9 = nI b ∧ ¬ hb b = 0) ∨ (E = "java/lang/IllegalStateException" ∧ ∃ j a b, j < ni ∧ a < NT ∧ b < NT ∧ i = nI j ∧ a9 = nI a ∧ b9 = nI b ∧ hb b = 0 ∧ nf = 12))) := by
  refine mx_of pl_hc rfl (Nat.le_of_ble_eq_true rfl) (ev_eq (lv' := [some (.ref (am 0)), some (.int i), some (.int a9), some (.int b9)]) ?_)
  refine ev_aload_0 0 d_hc_function_0 ?_
  refine ev_iload_1 1 d_hc_function_1 ?_
  refine gw_callV 2 0 [.int i] [] d_hc_function_2 hZ (kc_hc_147 (k9 := 0) (mc9 := 0) (ms9 := 0)) (hr_of (by omega) (by decide) (by decide) (by decide)) (h0.1.2 0 (by decide)) rfl rfl (ht_hc_isInstance i (h0.1.2 0 (by decide)) (nI ni) e5) (fun r9 w9 hw => ?_)
  obtain ⟨x1, y, x2, hy⟩ := hw
  subst x1
  subst x2
  refine ev_eq (st' := [.int y]) ?_
  refine ev_ifeq 5 24 d_hc_function_5 (fun c5 => ?_) (fun c5 => ?_)
  · refine gw_thr 24 d_hc_function_24 d_hc_function_27 d_hc_function_28 d_hc_function_30 d_hc_function_33 hl hzx tm_150_90 xw_86_90 (by omega) (by exact Nat.le_of_ble_eq_true rfl) (by exact Nat.le_of_ble_eq_true rfl) (by exact Nat.le_of_ble_eq_true rfl) ?_
    exact ⟨rfl, Or.inl ⟨rfl, fun w => absurd w.1 (mo_b0 hy c5)⟩⟩
  · obtain ⟨j, hj, rfl⟩ := n_ins rfl hn6 (mo_b1 hy c5)
    refine ev_aload_0 8 d_hc_function_8 ?_
    refine ev_iload_2 9 d_hc_function_9 ?_
    refine gw_callV 10 0 [.int a9] [] d_hc_function_10 hZ (kc_hc_82 (k9 := 0) (mc9 := 0) (ms9 := 0)) (hr_of (by omega) (by decide) (by decide) (by decide)) (h0.1.2 0 (by decide)) rfl rfl (ht_hc_isType a9 (h0.1.2 0 (by decide)) (nI NT) e1) (fun r9 w9 hw => ?_)
    obtain ⟨x1, z1, x2, hz1⟩ := hw
    subst x1
    subst x2
    refine ev_eq (st' := [.int z1]) ?_
    refine ev_ifeq 13 24 d_hc_function_13 (fun c13 => ?_) (fun c13 => ?_)
    · refine gw_thr 24 d_hc_function_24 d_hc_function_27 d_hc_function_28 d_hc_function_30 d_hc_function_33 hl hzx tm_150_90 xw_86_90 (by omega) (by exact Nat.le_of_ble_eq_true rfl) (by exact Nat.le_of_ble_eq_true rfl) (by exact Nat.le_of_ble_eq_true rfl) ?_
      exact ⟨rfl, Or.inl ⟨rfl, fun w => absurd w.2.1 (mo_b0 hz1 c13)⟩⟩
    · obtain ⟨a, ha, rfl⟩ := n_typ rfl hT.1 (mo_b1 hz1 c13)
      refine ev_aload_0 16 d_hc_function_16 ?_
      refine ev_iload_3 17 d_hc_function_17 ?_
      refine gw_callV 18 0 [.int b9] [] d_hc_function_18 hZ (kc_hc_82 (k9 := 0) (mc9 := 0) (ms9 := 0)) (hr_of (by omega) (by decide) (by decide) (by decide)) (h0.1.2 0 (by decide)) rfl rfl (ht_hc_isType b9 (h0.1.2 0 (by decide)) (nI NT) e1) (fun r9 w9 hw => ?_)
      obtain ⟨x1, z, x2, hz⟩ := hw
      subst x1
      subst x2
      refine ev_eq (st' := [.int z]) ?_
      refine ev_ifne 21 34 d_hc_function_21 (fun c21 => ?_) (fun c21 => ?_)
      · obtain ⟨b, hb9, rfl⟩ := n_typ rfl hT.1 (mo_b1 hz c21)
        refine ev_aload_0 34 d_hc_function_34 ?_
        refine gw_get 35 0 0 d_hc_function_35 lk_hc_11 (h0.1.2 0 (by decide)) rfl (.ref (am 1)) h0.2.2.1 ?_
        refine ev_iload_3 38 d_hc_function_38 ?_
        refine gw_qld (j := b) 39 1 d_hc_function_39 (h0.1.2 1 (by decide)) rfl (by rw [h0.2.1.1]; have := hT.1; omega) (by rw [h0.2.1.1]; decide) _ (hT.q hb9) ?_
        refine gw_get 40 (100 + 3 * b) 6 d_hc_function_40 lk_hc_152 (hT.k0 hb9) (hT.g0 hb9) (.int (hb b)) (hhb b hb9) ?_
        refine ev_ifeq 43 56 d_hc_function_43 (fun c43 => ?_) (fun c43 => ?_)
        · refine ev_aload_0 56 d_hc_function_56 ?_
          refine gw_get 57 0 7 d_hc_function_57 lk_hc_40 (h0.1.2 0 (by decide)) rfl (.int (nI nf)) e7 ?_
          refine ev_bipush (12) 60 d_hc_function_60 (by decide) ?_
          refine ev_icmplt 62 75 d_hc_function_62 (fun c62 => ?_) (fun c62 => ?_)
          · have h62 := n_lt nf 12 c62
            refine ev_aload_0 75 d_hc_function_75 ?_
            refine gw_get 76 0 6 d_hc_function_76 lk_hc_36 (h0.1.2 0 (by decide)) rfl (.ref (am 4)) h0.2.2.2.2.2.1 ?_
            refine ev_aload_0 79 d_hc_function_79 ?_
            refine gw_get 80 0 7 d_hc_function_80 lk_hc_40 (h0.1.2 0 (by decide)) rfl (.int (nI nf)) e7 ?_
            refine gw_newO (c := 2) (C := R_fu) (T := T_fu) (ty := t_fu) 83 (400 + nf) d_hc_function_83 hu_fu t_fu_ok cw_hc_34 iw_fu nw_fu rfl (hnk h62) (gk_fu nf h62) (Nat.le_of_ble_eq_true rfl) (Nat.le_of_ble_eq_true rfl) (fun q => ?_)
            have hnd1 : va_nd (K ++ [(400 + nf)]) = true := nd_app h0.1.1 (hnk h62)
            obtain ⟨am1, hm1⟩ : ∃ am1, am1 = va_up am (400 + nf) q := ⟨_, rfl⟩
            rw [← hm1]
            have ha1 : ∀ k, k ≠ (400 + nf) → am1 k = am k := fun k hk => by rw [hm1, va_up_ne _ _ hk]
            have aq : am1 (400 + nf) = q := by rw [hm1, va_up_self]
            have kk : ∀ k, k ∈ K → k ∈ K ++ [(400 + nf)] := fun k hk => List.mem_append_left _ hk
            have kG : (400 + nf) ∈ K ++ [(400 + nf)] := List.mem_append_right _ List.mem_cons_self
            have hNT := hT.1
            have t1 : ∀ j, (gsO S (400 + nf) (fun j => defaultValue (t_fu j))).1 0 j = S.1 0 j := fun j => by show va_up S.1 (400 + nf) _ 0 j = _; rw [va_up_ne _ _ (by omega)]
            refine ev_eq (lv' := [some (.ref (am1 0)), some (.int (nI j)), some (.int (nI a)), some (.int (nI b))]) (st' := [.ref (am1 (400 + nf)), .int (nI nf), .ref (am1 4)]) ?_ (h1 := by rw [ha1 0 (by omega)]) (h2 := by rw [ha1 4 (by omega), aq])
            refine ev_dup_a 86 d_hc_function_86 ?_
            refine ev_iload_1 87 d_hc_function_87 ?_
            refine ev_aload_0 88 d_hc_function_88 ?_
            refine gw_get 89 0 0 d_hc_function_89 lk_hc_11 (kk 0 (h0.1.2 0 (by decide))) rfl (.ref (am1 1)) ((t1 0).trans (by rw [h0.2.2.1, ha1 1 (by omega)])) ?_
            refine ev_iload_2 92 d_hc_function_92 ?_
            refine gw_qld (j := a) 93 1 d_hc_function_93 (kk 1 (h0.1.2 1 (by decide))) rfl (by rw [h0.2.1.1]; omega) (by rw [h0.2.1.1]; decide) (some (am1 (100 + 3 * a))) ((hT.q ha).trans (by rw [ha1 _ (by omega)])) ?_
            refine ev_aload_0 94 d_hc_function_94 ?_
            refine gw_get 95 0 0 d_hc_function_95 lk_hc_11 (kk 0 (h0.1.2 0 (by decide))) rfl (.ref (am1 1)) ((t1 0).trans (by rw [h0.2.2.1, ha1 1 (by omega)])) ?_
            refine ev_iload_3 98 d_hc_function_98 ?_
            refine gw_qld (j := b) 99 1 d_hc_function_99 (kk 1 (h0.1.2 1 (by decide))) rfl (by rw [h0.2.1.1]; omega) (by rw [h0.2.1.1]; decide) (some (am1 (100 + 3 * b))) ((hT.q hb9).trans (by rw [ha1 _ (by omega)])) ?_
            refine ev_callI 100 [.int (nI j), .ref (am1 (100 + 3 * a)), .ref (am1 (100 + 3 * b))] [.ref (am1 (400 + nf)), .int (nI nf), .ref (am1 4)] d_hc_function_100 hZ (kc_hc_163 (k9 := 1) (mc9 := 0) (ms9 := 0)) (hr_of (by omega) (by decide) (by decide) (by decide)) (ht_fu_init nf (nI j) (am1 (100 + 3 * a)) (am1 (100 + 3 * b)) hnd1 kG (gk_fu nf h62) (by decide)) (fun r9 w9 hw => ?_)
            obtain ⟨x1, x2⟩ := hw
            subst x1
            subst x2
            have t2 : ∀ j9, (gsG (gsG (gsG (gsO S (400 + nf) (fun j => defaultValue (t_fu j))) (400 + nf) 0 (.int (nI j))) (400 + nf) 1 (.ref (am1 (100 + 3 * a)))) (400 + nf) 2 (.ref (am1 (100 + 3 * b)))).1 0 j9 = S.1 0 j9 := fun j9 => by rw [gsG_nj (Or.inl (by omega)), gsG_nj (Or.inl (by omega)), gsG_nj (Or.inl (by omega))]; exact t1 j9
            refine ev_eq (st' := [.ref (am1 (400 + nf)), .int (nI nf), .ref (am1 4)]) (ws' := gw (K ++ [(400 + nf)]) am1 ks N (gsG (gsG (gsG (gsO S (400 + nf) (fun j => defaultValue (t_fu j))) (400 + nf) 0 (.int (nI j))) (400 + nf) 1 (.ref (am1 (100 + 3 * a)))) (400 + nf) 2 (.ref (am1 (100 + 3 * b))))) ?_
            refine gw_qst (j := nf) (o := (400 + nf)) 103 4 d_hc_function_103 hnd1 (kk 4 (h0.1.2 4 (by decide))) rfl (by rw [h0.2.1.2.2.2.1]; exact h62) (by rw [h0.2.1.2.2.2.1]; decide) kG 2 (gk_fu nf h62) (by decide) rfl ?_
            refine ev_aload_0 104 d_hc_function_104 ?_
            refine ev_dup_a 105 d_hc_function_105 ?_
            refine gw_get 106 0 7 d_hc_function_106 lk_hc_40 (kk 0 (h0.1.2 0 (by decide))) rfl (.int (nI nf)) ((t2 7).trans e7) ?_
            refine ev_iconst_1 109 d_hc_function_109 ?_
            refine ev_iadd 110 d_hc_function_110 ?_
            refine ev_topi (nI (nf + 1)) (nI_1 nf) ?_
            refine gw_put 111 0 7 d_hc_function_111 lp_hc_40 hnd1 (kk 0 (h0.1.2 0 (by decide))) rfl (vp_nar_int _) rfl ?_
            refine ev_aload_0 114 d_hc_function_114 ?_
            refine gw_get 115 0 7 d_hc_function_115 lk_hc_40 (kk 0 (h0.1.2 0 (by decide))) rfl (.int (nI (nf + 1))) (gsG_eq _ _ _ _) ?_
            refine ev_iconst_1 118 d_hc_function_118 ?_
            refine ev_isub 119 d_hc_function_119 ?_
            refine ev_topi (nI nf) (n_s1 (Nat.succ_pos nf)) ?_
            refine ev_pad 1 6 (by exact Nat.le_of_ble_eq_true rfl) (by exact Nat.le_of_ble_eq_true rfl) ?_
            refine ev_toX ?_
            refine ev_iret 120 d_hc_function_120 rfl ?_
            refine ⟨j, a, b, hj, ha, hb9, rfl, rfl, rfl, c43, h62, rfl, q, ?_⟩
            rw [← hm1, fn_S, ← ha1 (100 + 3 * a) (by omega), ← ha1 (100 + 3 * b) (by omega), ← aq]
          · have h62 := n_nlt nf 12 c62
            refine gw_thr 65 d_hc_function_65 d_hc_function_68 d_hc_function_69 d_hc_function_71 d_hc_function_74 hl hzx tm_161_97 xw_93_97 (by omega) (by exact Nat.le_of_ble_eq_true rfl) (by exact Nat.le_of_ble_eq_true rfl) (by exact Nat.le_of_ble_eq_true rfl) ?_
            exact ⟨rfl, Or.inr (Or.inr ⟨rfl, j, a, b, hj, ha, hb9, rfl, rfl, rfl, c43, by omega⟩)⟩
        · refine gw_thr 46 d_hc_function_46 d_hc_function_49 d_hc_function_50 d_hc_function_52 d_hc_function_55 hl hzx tm_158_160 xw_156_160 (by omega) (by exact Nat.le_of_ble_eq_true rfl) (by exact Nat.le_of_ble_eq_true rfl) (by exact Nat.le_of_ble_eq_true rfl) ?_
          exact ⟨rfl, Or.inr (Or.inl ⟨rfl, j, a, b, hj, ha, hb9, rfl, rfl, rfl, c43⟩)⟩
      · refine gw_thr 24 d_hc_function_24 d_hc_function_27 d_hc_function_28 d_hc_function_30 d_hc_function_33 hl hzx tm_150_90 xw_86_90 (by omega) (by exact Nat.le_of_ble_eq_true rfl) (by exact Nat.le_of_ble_eq_true rfl) (by exact Nat.le_of_ble_eq_true rfl) ?_
        exact ⟨rfl, Or.inl ⟨rfl, fun w => absurd w.2.2 (mo_b0 hz c21)⟩⟩
