set_option maxHeartbeats 4000000 in
set_option maxRecDepth 100000 in
theorem ht_tr_init {l : Launch} {D : va_G} {tl : List (ClassId × FieldType)} {Z : (Nat → Prop) → State → Heap → Prop} {K : List Nat} {am : Nat → Nat} {ks : Nat → ClassId} {N : Nat → Nat} {S : gS} {k : Nat}  (hN : va_nd K = true) (hk : 14 ∈ K) (hk1 : 1 ≤ k) : MT (hc_π l D ks tl Z) (m_tr_init k 0 0) 0 0 [.ref (am 14)] (gw K am ks N S) (fun r w => r = none ∧ w = gw K am ks N (gsG (gsG S 14 0 (.int 0)) 14 1 (.int 0))) := by
  refine mt_of pl_tr rfl (Nat.le_of_ble_eq_true rfl) (ev_eq (lv' := [some (.ref (am 14))]) ?_)
  refine ev_aload_0 0 d_tr_init_0 ?_
  refine ev_obj 1 d_tr_init_1 ob_tr oi_w oc_w (show 1 ≤ k by omega) (show 20 ≤ 40 * k by omega) ?_
  refine ev_aload_0 4 d_tr_init_4 ?_
  refine ev_iconst_0 5 d_tr_init_5 ?_
  refine gw_put 6 14 0 d_tr_init_6 lp_tr_7 hN hk rfl (vp_nar_int _) rfl ?_
  refine ev_aload_0 9 d_tr_init_9 ?_
  refine ev_iconst_0 10 d_tr_init_10 ?_
  refine gw_put 11 14 1 d_tr_init_11 lp_tr_13 hN hk rfl (vp_nar_int _) rfl ?_
  refine ev_vret 14 d_tr_init_14 rfl ?_
  exact ⟨rfl, rfl⟩

set_option maxHeartbeats 4000000 in
set_option maxRecDepth 100000 in
theorem ht_it_init {l : Launch} {D : va_G} {tl : List (ClassId × FieldType)} {Z : (Nat → Prop) → State → Heap → Prop} {K : List Nat} {am : Nat → Nat} {ks : Nat → ClassId} {N : Nat → Nat} {S : gS} {k : Nat}  (hN : va_nd K = true) (hk : 10 ∈ K) (hk11 : 11 ∉ K) (hk12 : 12 ∉ K) (hk13 : 13 ∉ K) (hk1 : 1 ≤ k) : MT (hc_π l D ks tl Z) (m_it_init k 3 600) 3 600 [.ref (am 10)] (gw K am ks N S) (fun r w => r = none ∧ ∃ am', (∀ k, k ≠ 11 → k ≠ 12 → k ≠ 13 → am' k = am k) ∧ w = gw (K ++ [11] ++ [12] ++ [13]) am' ks (va_up (va_up (va_up N 11 200) 12 200) 13 200) (gsG (gsG (gsAn (gsG (gsLn (gsG (gsAn S 11) 10 0 (.ref (am' 11))) 12) 10 1 (.ref (am' 12))) 13) 10 2 (.ref (am' 13))) 10 3 (.int 0))) := by
  refine mt_of pl_it rfl (Nat.le_of_ble_eq_true rfl) (ev_eq (lv' := [some (.ref (am 10))]) ?_)
  refine ev_aload_0 0 d_it_init_0 ?_
  refine ev_obj 1 d_it_init_1 ob_it oi_w oc_w (show 1 ≤ k by omega) (show 20 ≤ 40 * k by omega) ?_
  refine ev_aload_0 4 d_it_init_4 ?_
  refine ev_sipush (200) 5 d_it_init_5 (by decide) ?_
  have m11 : 11 ∉ K := hk11
  refine gw_newI (n := 200) 8 11 d_it_init_8 ac_int m11 rfl (by decide) (by exact Nat.le_of_ble_eq_true rfl) (by exact Nat.le_of_ble_eq_true rfl) (fun q11 => ?_)
  have d11 : va_nd (K ++ [11]) = true := nd_app hN m11
  have t11 : 10 ∈ K ++ [11] := List.mem_append_left _ hk
  obtain ⟨am1, ham1⟩ : ∃ a, a = va_up am 11 q11 := ⟨_, rfl⟩
  rw [← ham1]
  have a11 : ∀ k, k ≠ 11 → am1 k = am k := fun k hk => by rw [ham1, va_up_ne _ _ hk]
  have b11 : am1 11 = q11 := by rw [ham1, va_up_self]
  refine ev_eq (lv' := [some (.ref (am1 10))]) (st' := [.ref (am1 11), .ref (am1 10)]) ?_ (h1 := by rw [a11 10 (by decide)]) (h2 := by rw [a11 10 (by decide), b11])
  refine gw_putF 10 10 0 d_it_init_10 lf_it_9 rfl d11 t11 rfl rfl rfl ?_
  refine ev_aload_0 13 d_it_init_13 ?_
  refine ev_sipush (200) 14 d_it_init_14 (by decide) ?_
  have m12 : 12 ∉ (K ++ [11]) := (fun z => (List.mem_append.mp z).elim hk12 (fun y => by rw [List.mem_singleton] at y; exact absurd y (by decide)))
  refine gw_newL (n := 200) 17 12 d_it_init_17 ac_long m12 rfl (by decide) (by exact Nat.le_of_ble_eq_true rfl) (by exact Nat.le_of_ble_eq_true rfl) (fun q12 => ?_)
  have d12 : va_nd ((K ++ [11]) ++ [12]) = true := nd_app d11 m12
  have t12 : 10 ∈ (K ++ [11]) ++ [12] := List.mem_append_left _ t11
  obtain ⟨am2, ham2⟩ : ∃ a, a = va_up am1 12 q12 := ⟨_, rfl⟩
  rw [← ham2]
  have a12 : ∀ k, k ≠ 12 → am2 k = am1 k := fun k hk => by rw [ham2, va_up_ne _ _ hk]
  have b12 : am2 12 = q12 := by rw [ham2, va_up_self]
  refine ev_eq (lv' := [some (.ref (am2 10))]) (st' := [.ref (am2 12), .ref (am2 10)]) ?_ (h1 := by rw [a12 10 (by decide)]) (h2 := by rw [a12 10 (by decide), b12])
  refine gw_putF 19 10 1 d_it_init_19 lf_it_15 rfl d12 t12 rfl rfl rfl ?_
  refine ev_aload_0 22 d_it_init_22 ?_
  refine ev_sipush (200) 23 d_it_init_23 (by decide) ?_
  have m13 : 13 ∉ (K ++ [11] ++ [12]) := (fun z => (List.mem_append.mp z).elim (fun z => (List.mem_append.mp z).elim hk13 (fun y => by rw [List.mem_singleton] at y; exact absurd y (by decide))) (fun y => by rw [List.mem_singleton] at y; exact absurd y (by decide)))
  refine gw_newI (n := 200) 26 13 d_it_init_26 ac_int m13 rfl (by decide) (by exact Nat.le_of_ble_eq_true rfl) (by exact Nat.le_of_ble_eq_true rfl) (fun q13 => ?_)
  have d13 : va_nd ((K ++ [11] ++ [12]) ++ [13]) = true := nd_app d12 m13
  have t13 : 10 ∈ (K ++ [11] ++ [12]) ++ [13] := List.mem_append_left _ t12
  obtain ⟨am3, ham3⟩ : ∃ a, a = va_up am2 13 q13 := ⟨_, rfl⟩
  rw [← ham3]
  have a13 : ∀ k, k ≠ 13 → am3 k = am2 k := fun k hk => by rw [ham3, va_up_ne _ _ hk]
  have b13 : am3 13 = q13 := by rw [ham3, va_up_self]
  refine ev_eq (lv' := [some (.ref (am3 10))]) (st' := [.ref (am3 13), .ref (am3 10)]) ?_ (h1 := by rw [a13 10 (by decide)]) (h2 := by rw [a13 10 (by decide), b13])
  refine gw_putF 28 10 2 d_it_init_28 lf_it_19 rfl d13 t13 rfl rfl rfl ?_
  refine ev_aload_0 31 d_it_init_31 ?_
  refine ev_iconst_0 32 d_it_init_32 ?_
  refine gw_put 33 10 3 d_it_init_33 lp_it_22 d13 t13 rfl (vp_nar_int _) rfl ?_
  refine ev_vret 36 d_it_init_36 rfl ?_
  refine ⟨rfl, am3, fun k k1 k2 k3 => by rw [a13 k k3, a12 k k2, a11 k k1], ?_⟩
  rw [a13 11 (by decide), a12 11 (by decide), a13 12 (by decide)]

def hK0 : List Nat := [0, 1, 2, 3, 4, 5, 6, 7, 8, 9, 10, 11, 12, 13, 14]
/-- a new object -/
def hcI (am N : Nat → Nat) (S : gS) : Prop := hc_w0 hK0 am N S ∧ (S.1 0 1 = .int 0 ∧ S.1 0 3 = .int 0 ∧ S.1 0 5 = .int 0 ∧ S.1 0 7 = .int 0 ∧ S.1 0 11 = .int 0 ∧ S.1 0 12 = .int 0 ∧ S.1 0 17 = .int (-1)) ∧ (S.1 14 0 = .int 0 ∧ S.1 14 1 = .int 0) ∧ (∀ j, S.2.1 8 j = 0) ∧ ∀ j, S.2.1 9 j = 0

set_option maxHeartbeats 4000000 in
set_option maxRecDepth 100000 in
theorem ht_hc_init {l : Launch} {D : va_G} {tl : List (ClassId × FieldType)} {Z : (Nat → Prop) → State → Heap → Prop} {K : List Nat} {am : Nat → Nat} {ks : Nat → ClassId} {N : Nat → Nat} {S : gS} {k : Nat}  (hZ : ev_Zok Z) (hNw : hc_ZN Z) (hAO : hc_AO Z) (hk2 : 2 ≤ k) : MT (hc_π l D ks tl Z) (m_hc_init k 14 688) 14 688 [.ref (am 0)] (gw [0] am ks N S) (fun r w => r = none ∧ ∃ am' N' S', am' 0 = am 0 ∧ w = gw hK0 am' ks N' S' ∧ hcI am' N' S') := by
  refine mt_of pl_hc rfl (Nat.le_of_ble_eq_true rfl) (ev_eq (lv' := [some (.ref (am 0))]) ?_)
  refine ev_aload_0 0 d_hc_init_0 ?_
  refine ev_obj 1 d_hc_init_1 ob_hc oi_w oc_w (show 1 ≤ k by omega) (show 20 ≤ 40 * k by omega) ?_
  refine ev_aload_0 4 d_hc_init_4 ?_
  refine ev_bipush (32) 5 d_hc_init_5 (by decide) ?_
  refine gw_newQ (n := 32) (c := 21) 7 1 d_hc_init_7 cw_hc_9 (fun s z => (hAO s z).1) (by decide) rfl (by decide) (by exact Nat.le_of_ble_eq_true rfl) (by exact Nat.le_of_ble_eq_true rfl) (fun q1 => ?_)
  obtain ⟨am1, ham1⟩ : ∃ a, a = va_up am 1 q1 := ⟨_, rfl⟩
  rw [← ham1]
  have a1 : ∀ k, k ≠ 1 → am1 k = am k := fun k hk => by rw [ham1, va_up_ne _ _ hk]
  have b1 : am1 1 = q1 := by rw [ham1, va_up_self]
  refine ev_eq (lv' := [some (.ref (am1 0))]) (st' := [.ref (am1 1), .ref (am1 0)]) ?_ (h1 := by rw [a1 0 (by decide)]) (h2 := by rw [a1 0 (by decide), b1])
  refine gw_putF 10 0 0 d_hc_init_10 lf_hc_11 rfl (by decide) (by decide) rfl rfl rfl ?_
  refine ev_aload_0 13 d_hc_init_13 ?_
  refine ev_iconst_0 14 d_hc_init_14 ?_
  refine gw_put 15 0 1 d_hc_init_15 lp_hc_15 (by decide) (by decide) rfl (vp_nar_int _) rfl ?_
  refine ev_aload_0 18 d_hc_init_18 ?_
  refine ev_bipush (6) 19 d_hc_init_19 (by decide) ?_
  refine gw_newQ (n := 6) (c := 21) 21 2 d_hc_init_21 cw_hc_9 (fun s z => (hAO s z).1) (by decide) rfl (by decide) (by exact Nat.le_of_ble_eq_true rfl) (by exact Nat.le_of_ble_eq_true rfl) (fun q2 => ?_)
  obtain ⟨am2, ham2⟩ : ∃ a, a = va_up am1 2 q2 := ⟨_, rfl⟩
  rw [← ham2]
  have a2 : ∀ k, k ≠ 2 → am2 k = am1 k := fun k hk => by rw [ham2, va_up_ne _ _ hk]
  have b2 : am2 2 = q2 := by rw [ham2, va_up_self]
  refine ev_eq (lv' := [some (.ref (am2 0))]) (st' := [.ref (am2 2), .ref (am2 0)]) ?_ (h1 := by rw [a2 0 (by decide)]) (h2 := by rw [a2 0 (by decide), b2])
  refine gw_putF 24 0 2 d_hc_init_24 lf_hc_19 rfl (by decide) (by decide) rfl rfl rfl ?_
  refine ev_aload_0 27 d_hc_init_27 ?_
  refine ev_iconst_0 28 d_hc_init_28 ?_
  refine gw_put 29 0 3 d_hc_init_29 lp_hc_22 (by decide) (by decide) rfl (vp_nar_int _) rfl ?_
  refine ev_aload_0 32 d_hc_init_32 ?_
  refine ev_bipush (6) 33 d_hc_init_33 (by decide) ?_
  refine gw_newQ (n := 6) (c := 22) 35 3 d_hc_init_35 cw_hc_25 (fun s z => (hAO s z).2.1) (by decide) rfl (by decide) (by exact Nat.le_of_ble_eq_true rfl) (by exact Nat.le_of_ble_eq_true rfl) (fun q3 => ?_)
  obtain ⟨am3, ham3⟩ : ∃ a, a = va_up am2 3 q3 := ⟨_, rfl⟩
  rw [← ham3]
  have a3 : ∀ k, k ≠ 3 → am3 k = am2 k := fun k hk => by rw [ham3, va_up_ne _ _ hk]
  have b3 : am3 3 = q3 := by rw [ham3, va_up_self]
  refine ev_eq (lv' := [some (.ref (am3 0))]) (st' := [.ref (am3 3), .ref (am3 0)]) ?_ (h1 := by rw [a3 0 (by decide)]) (h2 := by rw [a3 0 (by decide), b3])
  refine gw_putF 38 0 4 d_hc_init_38 lf_hc_27 rfl (by decide) (by decide) rfl rfl rfl ?_
  refine ev_aload_0 41 d_hc_init_41 ?_
  refine ev_iconst_0 42 d_hc_init_42 ?_
  refine gw_put 43 0 5 d_hc_init_43 lp_hc_31 (by decide) (by decide) rfl (vp_nar_int _) rfl ?_
  refine ev_aload_0 46 d_hc_init_46 ?_
  refine ev_bipush (12) 47 d_hc_init_47 (by decide) ?_
  refine gw_newQ (n := 12) (c := 23) 49 4 d_hc_init_49 cw_hc_34 (fun s z => (hAO s z).2.2.1) (by decide) rfl (by decide) (by exact Nat.le_of_ble_eq_true rfl) (by exact Nat.le_of_ble_eq_true rfl) (fun q4 => ?_)
  obtain ⟨am4, ham4⟩ : ∃ a, a = va_up am3 4 q4 := ⟨_, rfl⟩
  rw [← ham4]
  have a4 : ∀ k, k ≠ 4 → am4 k = am3 k := fun k hk => by rw [ham4, va_up_ne _ _ hk]
  have b4 : am4 4 = q4 := by rw [ham4, va_up_self]
  refine ev_eq (lv' := [some (.ref (am4 0))]) (st' := [.ref (am4 4), .ref (am4 0)]) ?_ (h1 := by rw [a4 0 (by decide)]) (h2 := by rw [a4 0 (by decide), b4])
  refine gw_putF 52 0 6 d_hc_init_52 lf_hc_36 rfl (by decide) (by decide) rfl rfl rfl ?_
  refine ev_aload_0 55 d_hc_init_55 ?_
  refine ev_iconst_0 56 d_hc_init_56 ?_
  refine gw_put 57 0 7 d_hc_init_57 lp_hc_40 (by decide) (by decide) rfl (vp_nar_int _) rfl ?_
  refine ev_aload_0 60 d_hc_init_60 ?_
  refine ev_bipush (6) 61 d_hc_init_61 (by decide) ?_
  refine gw_newI (n := 6) 63 5 d_hc_init_63 ac_int (by decide) rfl (by decide) (by exact Nat.le_of_ble_eq_true rfl) (by exact Nat.le_of_ble_eq_true rfl) (fun q5 => ?_)
  obtain ⟨am5, ham5⟩ : ∃ a, a = va_up am4 5 q5 := ⟨_, rfl⟩
  rw [← ham5]
  have a5 : ∀ k, k ≠ 5 → am5 k = am4 k := fun k hk => by rw [ham5, va_up_ne _ _ hk]
  have b5 : am5 5 = q5 := by rw [ham5, va_up_self]
  refine ev_eq (lv' := [some (.ref (am5 0))]) (st' := [.ref (am5 5), .ref (am5 0)]) ?_ (h1 := by rw [a5 0 (by decide)]) (h2 := by rw [a5 0 (by decide), b5])
  refine gw_putF 65 0 8 d_hc_init_65 lf_hc_43 rfl (by decide) (by decide) rfl rfl rfl ?_
  refine ev_aload_0 68 d_hc_init_68 ?_
  refine ev_bipush (6) 69 d_hc_init_69 (by decide) ?_
  refine gw_newI (n := 6) 71 6 d_hc_init_71 ac_int (by decide) rfl (by decide) (by exact Nat.le_of_ble_eq_true rfl) (by exact Nat.le_of_ble_eq_true rfl) (fun q6 => ?_)
  obtain ⟨am6, ham6⟩ : ∃ a, a = va_up am5 6 q6 := ⟨_, rfl⟩
  rw [← ham6]
  have a6 : ∀ k, k ≠ 6 → am6 k = am5 k := fun k hk => by rw [ham6, va_up_ne _ _ hk]
  have b6 : am6 6 = q6 := by rw [ham6, va_up_self]
  refine ev_eq (lv' := [some (.ref (am6 0))]) (st' := [.ref (am6 6), .ref (am6 0)]) ?_ (h1 := by rw [a6 0 (by decide)]) (h2 := by rw [a6 0 (by decide), b6])
  refine gw_putF 73 0 9 d_hc_init_73 lf_hc_47 rfl (by decide) (by decide) rfl rfl rfl ?_
  refine ev_aload_0 76 d_hc_init_76 ?_
  refine ev_bipush (6) 77 d_hc_init_77 (by decide) ?_
  refine gw_newI (n := 6) 79 7 d_hc_init_79 ac_int (by decide) rfl (by decide) (by exact Nat.le_of_ble_eq_true rfl) (by exact Nat.le_of_ble_eq_true rfl) (fun q7 => ?_)
  obtain ⟨am7, ham7⟩ : ∃ a, a = va_up am6 7 q7 := ⟨_, rfl⟩
  rw [← ham7]
  have a7 : ∀ k, k ≠ 7 → am7 k = am6 k := fun k hk => by rw [ham7, va_up_ne _ _ hk]
  have b7 : am7 7 = q7 := by rw [ham7, va_up_self]
  refine ev_eq (lv' := [some (.ref (am7 0))]) (st' := [.ref (am7 7), .ref (am7 0)]) ?_ (h1 := by rw [a7 0 (by decide)]) (h2 := by rw [a7 0 (by decide), b7])
  refine gw_putF 81 0 10 d_hc_init_81 lf_hc_50 rfl (by decide) (by decide) rfl rfl rfl ?_
  refine ev_aload_0 84 d_hc_init_84 ?_
  refine ev_iconst_0 85 d_hc_init_85 ?_
  refine gw_put 86 0 11 d_hc_init_86 lp_hc_53 (by decide) (by decide) rfl (vp_nar_int _) rfl ?_
  refine ev_aload_0 89 d_hc_init_89 ?_
  refine ev_iconst_0 90 d_hc_init_90 ?_
  refine gw_put 91 0 12 d_hc_init_91 lp_hc_56 (by decide) (by decide) rfl (vp_nar_int _) rfl ?_
  refine ev_aload_0 94 d_hc_init_94 ?_
  refine ev_iconst_4 95 d_hc_init_95 ?_
  refine gw_newI (n := 4) 96 8 d_hc_init_96 ac_int (by decide) rfl (by decide) (by exact Nat.le_of_ble_eq_true rfl) (by exact Nat.le_of_ble_eq_true rfl) (fun q8 => ?_)
  obtain ⟨am8, ham8⟩ : ∃ a, a = va_up am7 8 q8 := ⟨_, rfl⟩
  rw [← ham8]
  have a8 : ∀ k, k ≠ 8 → am8 k = am7 k := fun k hk => by rw [ham8, va_up_ne _ _ hk]
  have b8 : am8 8 = q8 := by rw [ham8, va_up_self]
  refine ev_eq (lv' := [some (.ref (am8 0))]) (st' := [.ref (am8 8), .ref (am8 0)]) ?_ (h1 := by rw [a8 0 (by decide)]) (h2 := by rw [a8 0 (by decide), b8])
  refine gw_putF 98 0 13 d_hc_init_98 lf_hc_59 rfl (by decide) (by decide) rfl rfl rfl ?_
  refine ev_aload_0 101 d_hc_init_101 ?_
  refine ev_iconst_4 102 d_hc_init_102 ?_
  refine gw_newI (n := 4) 103 9 d_hc_init_103 ac_int (by decide) rfl (by decide) (by exact Nat.le_of_ble_eq_true rfl) (by exact Nat.le_of_ble_eq_true rfl) (fun q9 => ?_)
  obtain ⟨am9, ham9⟩ : ∃ a, a = va_up am8 9 q9 := ⟨_, rfl⟩
  rw [← ham9]
  have a9 : ∀ k, k ≠ 9 → am9 k = am8 k := fun k hk => by rw [ham9, va_up_ne _ _ hk]
  have b9 : am9 9 = q9 := by rw [ham9, va_up_self]
  refine ev_eq (lv' := [some (.ref (am9 0))]) (st' := [.ref (am9 9), .ref (am9 0)]) ?_ (h1 := by rw [a9 0 (by decide)]) (h2 := by rw [a9 0 (by decide), b9])
  refine gw_putF 105 0 14 d_hc_init_105 lf_hc_62 rfl (by decide) (by decide) rfl rfl rfl ?_
  refine ev_aload_0 108 d_hc_init_108 ?_
  refine gw_newO (c := 6) (C := R_it) (T := T_it) (ty := t_it) 109 10 d_hc_init_109 hu_it t_it_ok cw_hc_65 iw_it nw_it rfl (by decide) rfl (by exact Nat.le_of_ble_eq_true rfl) (by exact Nat.le_of_ble_eq_true rfl) (fun q10 => ?_)
  obtain ⟨am10, ham10⟩ : ∃ a, a = va_up am9 10 q10 := ⟨_, rfl⟩
  rw [← ham10]
  have a10 : ∀ k, k ≠ 10 → am10 k = am9 k := fun k hk => by rw [ham10, va_up_ne _ _ hk]
  have b10 : am10 10 = q10 := by rw [ham10, va_up_self]
  refine ev_eq (lv' := [some (.ref (am10 0))]) (st' := [.ref (am10 10), .ref (am10 0)]) ?_ (h1 := by rw [a10 0 (by decide)]) (h2 := by rw [a10 0 (by decide), b10])
  refine ev_dup_a 112 d_hc_init_112 ?_
  refine ev_callIN 113 [] [.ref (am10 10), .ref (am10 0)] d_hc_init_113 hZ (kn_hc_67 (k9 := 1) (mc9 := 3) (ms9 := 600) hNw) rfl rfl (hr_of (by omega) (by decide) (by decide) (by decide)) (ht_it_init (by decide) (by decide) (by decide) (by decide) (by decide) (by decide)) (fun r9 w9 hw => ?_)
  obtain ⟨x1, amI, aI, x2⟩ := hw
  subst x1
  subst x2
  refine ev_eq (lv' := [some (.ref (amI 0))]) (st' := [.ref (amI 10), .ref (amI 0)]) ?_ (h1 := by rw [aI 0 (by decide) (by decide) (by decide)]) (h2 := by rw [aI 0 (by decide) (by decide) (by decide), aI 10 (by decide) (by decide) (by decide)]; rfl)
  refine gw_putF 116 0 15 d_hc_init_116 lf_hc_68 rfl (by decide) (by decide) rfl rfl rfl ?_
  refine ev_aload_0 119 d_hc_init_119 ?_
  refine gw_newO (c := 3) (C := R_tr) (T := T_tr) (ty := t_tr) 120 14 d_hc_init_120 hu_tr t_tr_ok cw_hc_72 iw_tr nw_tr rfl (by decide) rfl (by exact Nat.le_of_ble_eq_true rfl) (by exact Nat.le_of_ble_eq_true rfl) (fun q14 => ?_)
  obtain ⟨am14, ham14⟩ : ∃ a, a = va_up amI 14 q14 := ⟨_, rfl⟩
  rw [← ham14]
  have a14 : ∀ k, k ≠ 14 → am14 k = amI k := fun k hk => by rw [ham14, va_up_ne _ _ hk]
  have b14 : am14 14 = q14 := by rw [ham14, va_up_self]
  refine ev_eq (lv' := [some (.ref (am14 0))]) (st' := [.ref (am14 14), .ref (am14 0)]) ?_ (h1 := by rw [a14 0 (by decide)]) (h2 := by rw [a14 0 (by decide), b14])
  refine ev_dup_a 123 d_hc_init_123 ?_
  refine ev_callIN 124 [] [.ref (am14 14), .ref (am14 0)] d_hc_init_124 hZ (kn_hc_74 (k9 := 1) (mc9 := 0) (ms9 := 0) hNw) rfl rfl (hr_of (by omega) (by decide) (by decide) (by decide)) (ht_tr_init (by decide) (by decide) (by decide)) (fun r9 w9 hw => ?_)
  obtain ⟨x1, x2⟩ := hw
  subst x1
  subst x2
  refine ev_eq (st' := [.ref (am14 14), .ref (am14 0)]) ?_
  refine gw_putF 127 0 16 d_hc_init_127 lf_hc_75 rfl (by decide) (by decide) rfl rfl rfl ?_
  refine ev_aload_0 130 d_hc_init_130 ?_
  refine ev_iconst_m1 131 d_hc_init_131 ?_
  refine gw_put 132 0 17 d_hc_init_132 lp_hc_79 (by decide) (by decide) rfl (vp_nar_int _) rfl ?_
  refine ev_pad 14 688 (by exact Nat.le_of_ble_eq_true rfl) (by exact Nat.le_of_ble_eq_true rfl) ?_
  refine ev_vret 135 d_hc_init_135 rfl ?_
  refine ⟨rfl, am14, _, _, by rw [a14 0 (by decide), aI 0 (by decide) (by decide) (by decide), a10 0 (by decide), a9 0 (by decide), a8 0 (by decide), a7 0 (by decide), a6 0 (by decide), a5 0 (by decide), a4 0 (by decide), a3 0 (by decide), a2 0 (by decide), a1 0 (by decide)], rfl, ⟨⟨by decide, by decide⟩, ⟨rfl, rfl, rfl, rfl, rfl, rfl, rfl, rfl, rfl, rfl, rfl, rfl⟩, ?_, ?_, ?_, ?_, ?_, ?_, ?_, ?_, ?_, ?_, ?_, ?_, ?_, ?_⟩, ⟨rfl, rfl, rfl, rfl, rfl, rfl, rfl⟩, ⟨rfl, rfl⟩, fun j => rfl, fun j => rfl⟩
  · rw [a14 1 (by decide), aI 1 (by decide) (by decide) (by decide), a10 1 (by decide), a9 1 (by decide), a8 1 (by decide), a7 1 (by decide), a6 1 (by decide), a5 1 (by decide), a4 1 (by decide), a3 1 (by decide), a2 1 (by decide)]
    rfl
  · rw [a14 2 (by decide), aI 2 (by decide) (by decide) (by decide), a10 2 (by decide), a9 2 (by decide), a8 2 (by decide), a7 2 (by decide), a6 2 (by decide), a5 2 (by decide), a4 2 (by decide), a3 2 (by decide)]
    rfl
  · rw [a14 3 (by decide), aI 3 (by decide) (by decide) (by decide), a10 3 (by decide), a9 3 (by decide), a8 3 (by decide), a7 3 (by decide), a6 3 (by decide), a5 3 (by decide), a4 3 (by decide)]
    rfl
  · rw [a14 4 (by decide), aI 4 (by decide) (by decide) (by decide), a10 4 (by decide), a9 4 (by decide), a8 4 (by decide), a7 4 (by decide), a6 4 (by decide), a5 4 (by decide)]
    rfl
  · rw [a14 5 (by decide), aI 5 (by decide) (by decide) (by decide), a10 5 (by decide), a9 5 (by decide), a8 5 (by decide), a7 5 (by decide), a6 5 (by decide)]
    rfl
  · rw [a14 6 (by decide), aI 6 (by decide) (by decide) (by decide), a10 6 (by decide), a9 6 (by decide), a8 6 (by decide), a7 6 (by decide)]
    rfl
  · rw [a14 7 (by decide), aI 7 (by decide) (by decide) (by decide), a10 7 (by decide), a9 7 (by decide), a8 7 (by decide)]
    rfl
  · rw [a14 8 (by decide), aI 8 (by decide) (by decide) (by decide), a10 8 (by decide), a9 8 (by decide)]
    rfl
  · rw [a14 9 (by decide), aI 9 (by decide) (by decide) (by decide), a10 9 (by decide)]
    rfl
  · rw [a14 10 (by decide)]
    rfl
  · rfl
  · rw [a14 11 (by decide)]
    rfl
  · rw [a14 12 (by decide)]
    rfl
  · rw [a14 13 (by decide)]
    rfl
