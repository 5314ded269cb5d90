theorem gce_c {ks : Nat → ClassId} {N N' : Nat → Nat} {S S' : gS} {k : Nat} (h0 : N' k = N k) (h1 : ∀ j, S'.1 k j = S.1 k j) (h2 : S'.2.1 k = S.2.1 k) (h3 : S'.2.2.1 k = S.2.2.1 k) (h4 : S'.2.2.2 k = S.2.2.2 k) : gce ks N' S' k = gce ks N S k := by
  have e : S'.1 k = S.1 k := funext h1
  unfold gce
  rw [h0, e, h2, h3, h4]
/-- the state behind a new type -/
def ty_S (S' : gS) (NT q : Nat) : gS := gsG (gsG (gsQ S' 1 NT (some q)) 0 1 (.int (nI (NT + 1)))) 0 3 (.int 0)

set_option maxHeartbeats 4000000 in
set_option maxRecDepth 100000 in
theorem hx_hc_type {l : Launch} {D : va_G} {tl : List (ClassId × FieldType)} {Z : (Nat → Prop) → State → Heap → Prop} {K : List Nat} {am : Nat → Nat} {ks : Nat → ClassId} {N : Nat → Nat} {S : gS} {k : Nat} (x : Int32) (n : Int32) (hl : l.stackTraces = false) (hzx : hc_ZX Z) (hZ : ev_Zok Z) {dr al sz dp : Nat → Nat} {bz : Nat → Int32} {nd NT : Nat} (ta tz : Nat) (hNw : hc_ZN Z) (hAO : hc_AO Z) (hST : hc_ST Z ta tz) (h0 : hc_w0 K am N S) (hNT : NT ≤ 32) (e1 : S.1 0 1 = .int (nI NT)) (e3 : S.1 0 3 = .int (nI nd)) (hd6 : nd ≤ 6) (hnk : (100 + 3 * NT) ∉ K ∧ (101 + 3 * NT) ∉ K ∧ (102 + 3 * NT) ∉ K) (hD : drR K am S NT nd dr al sz dp bz) (hk5 : 5 < k) : MX (hc_π l D ks tl Z) (m_hc_type k 4 27) 4 27 [.ref (am 0), .int x, .int n] (gw K am ks N S) (fun r w => ∃ kd, x = nI kd ∧ kd < 13 ∧ hp_of x (nI nd) ∧ nu_of x n ∧ ¬ 5 < nI (la_dp dr dp nd) ∧ ¬ 96 < la_Z kd (la_al dr al nd) (la_en (nI kd) (la_al dr al nd) dr al sz nd) ∧ NT < 32 ∧ r = some (.int (nI NT)) ∧ ∃ q am' N' S', w = gw (K ++ [(100 + 3 * NT), (101 + 3 * NT), (102 + 3 * NT)]) am' ks N' (ty_S S' NT (am' (100 + 3 * NT))) ∧ tyQ (va_up am (100 + 3 * NT) q) N (gsO S (100 + 3 * NT) (fun j => defaultValue (t_ty j))) NT kd nd n dr al sz dp bz am' N' S') (fun E w => w = gw K am ks N S ∧ ((E = "java/lang/IllegalArgumentException" ∧ ¬ ((¬ x < 0 ∧ ¬ 12 < x) ∧ hp_of x (nI nd) ∧ nu_of x n)) ∨ (E = "java/lang/IllegalArgumentException" ∧ ∃ kd, x = nI kd ∧ kd < 13 ∧ hp_of x (nI nd) ∧ nu_of x n ∧ (5 < nI (la_dp dr dp nd) ∨ 96 < la_Z kd (la_al dr al nd) (la_en (nI kd) (la_al dr al nd) dr al sz nd))) ∨ (E = "java/lang/IllegalStateException" ∧ ∃ kd, x = nI kd ∧ kd < 13 ∧ hp_of x (nI nd) ∧ nu_of x n ∧ ¬ 5 < nI (la_dp dr dp nd) ∧ ¬ 96 < la_Z kd (la_al dr al nd) (la_en (nI kd) (la_al dr al nd) dr al sz nd) ∧ NT = 32))) := by
  refine mx_of pl_hc rfl (Nat.le_of_ble_eq_true rfl) (ev_eq (lv' := [some (.ref (am 0)), some (.int x), some (.int n), none]) ?_)
  refine ev_iload_1 0 d_hc_type_0 ?_
  refine ev_callS 1 [.int x] [] d_hc_type_1 hZ (kc_hc_98 (k9 := 0) (mc9 := 0) (ms9 := 0)) (hr_of (by omega) (by decide) (by decide) (by decide)) (ht_hc_isKind x) (fun r9 w9 hw => ?_)
  obtain ⟨x1, y, x2, hy⟩ := hw
  subst x1
  subst x2
  refine ev_eq (st' := [.int y]) ?_
  refine ev_ifeq 4 23 d_hc_type_4 (fun c4 => ?_) (fun c4 => ?_)
  · refine gw_thr 23 d_hc_type_23 d_hc_type_26 d_hc_type_27 d_hc_type_29 d_hc_type_32 hl hzx tm_108_90 xw_86_90 (by omega) (by exact Nat.le_of_ble_eq_true rfl) (by exact Nat.le_of_ble_eq_true rfl) (by exact Nat.le_of_ble_eq_true rfl) ?_
    exact ⟨rfl, Or.inl ⟨rfl, fun w => absurd w.1 (mo_b0 hy c4)⟩⟩
  · refine ev_aload_0 7 d_hc_type_7 ?_
    refine ev_iload_1 8 d_hc_type_8 ?_
    refine gw_callV 9 0 [.int x] [] d_hc_type_9 hZ (kc_hc_101 (k9 := 0) (mc9 := 0) (ms9 := 0)) (hr_of (by omega) (by decide) (by decide) (by decide)) (h0.1.2 0 (by decide)) rfl rfl (ht_hc_hasPartsOf x (h0.1.2 0 (by decide)) (nI nd) e3) (fun r9 w9 hw => ?_)
    obtain ⟨x1, z1, x2, hz1⟩ := hw
    subst x1
    subst x2
    refine ev_eq (st' := [.int z1]) ?_
    refine ev_ifeq 12 23 d_hc_type_12 (fun c12 => ?_) (fun c12 => ?_)
    · refine gw_thr 23 d_hc_type_23 d_hc_type_26 d_hc_type_27 d_hc_type_29 d_hc_type_32 hl hzx tm_108_90 xw_86_90 (by omega) (by exact Nat.le_of_ble_eq_true rfl) (by exact Nat.le_of_ble_eq_true rfl) (by exact Nat.le_of_ble_eq_true rfl) ?_
      exact ⟨rfl, Or.inl ⟨rfl, fun w => absurd w.2.1 (mo_b0 hz1 c12)⟩⟩
    · refine ev_iload_1 15 d_hc_type_15 ?_
      refine ev_iload_2 16 d_hc_type_16 ?_
      refine ev_callS 17 [.int x, .int n] [] d_hc_type_17 hZ (kc_hc_104 (k9 := 1) (mc9 := 0) (ms9 := 0)) (hr_of (by omega) (by decide) (by decide) (by decide)) (ht_hc_isNumberOf hZ (by decide) x n) (fun r9 w9 hw => ?_)
      obtain ⟨x1, z, x2, hz⟩ := hw
      subst x1
      subst x2
      refine ev_eq (st' := [.int z]) ?_
      refine ev_ifne 20 33 d_hc_type_20 (fun c20 => ?_) (fun c20 => ?_)
      · obtain ⟨kd, hkd, rfl⟩ : ∃ kd, kd < 13 ∧ x = nI kd := by
          obtain ⟨z1, z2⟩ := mo_b1 hy c4
          obtain ⟨j, hj, rfl⟩ := nI_of z1
          exact ⟨j, by have := n_nlt 12 j z2; omega, rfl⟩
        refine gw_newO (c := 1) (C := R_ty) (T := T_ty) (ty := t_ty) 33 (100 + 3 * NT) d_hc_type_33 hu_ty t_ty_ok cw_hc_9 iw_ty nw_ty rfl hnk.1 (gk_ty3 NT (by omega)).1 (Nat.le_of_ble_eq_true rfl) (Nat.le_of_ble_eq_true rfl) (fun q => ?_)
        have hnd1 : va_nd (K ++ [(100 + 3 * NT)]) = true := nd_app h0.1.1 hnk.1
        obtain ⟨am1, hm1⟩ : ∃ am1, am1 = va_up am (100 + 3 * NT) q := ⟨_, rfl⟩
        rw [← hm1]
        have ha1 : ∀ k, k ≠ (100 + 3 * NT) → am1 k = am k := fun k hk => by rw [hm1, va_up_ne _ _ hk]
        have aq : am1 (100 + 3 * NT) = q := by rw [hm1, va_up_self]
        have kk1 : ∀ k, k ∈ K → k ∈ K ++ [(100 + 3 * NT)] := fun k hk => List.mem_append_left _ hk
        have t1 : ∀ k j, k ≠ (100 + 3 * NT) → (gsO S (100 + 3 * NT) (fun j => defaultValue (t_ty j))).1 k j = S.1 k j := fun k j hk => by show va_up S.1 (100 + 3 * NT) _ k j = _; rw [va_up_ne _ _ hk]
        refine ev_eq (lv' := [some (.ref (am1 0)), some (.int (nI kd)), some (.int n), none]) (st' := [.ref (am1 (100 + 3 * NT))]) ?_ (h1 := by rw [ha1 0 (by omega)]) (h2 := by rw [aq])
        refine ev_dup_a 36 d_hc_type_36 ?_
        refine ev_iload_1 37 d_hc_type_37 ?_
        refine ev_iload_2 38 d_hc_type_38 ?_
        refine ev_aload_0 39 d_hc_type_39 ?_
        refine gw_get 40 0 2 d_hc_type_40 lk_hc_19 (kk1 0 (h0.1.2 0 (by decide))) rfl (.ref (am1 2)) ((t1 0 2 (by omega)).trans (by rw [h0.2.2.2.1, ha1 2 (by omega)])) ?_
        refine ev_aload_0 43 d_hc_type_43 ?_
        refine gw_get 44 0 3 d_hc_type_44 lk_hc_22 (kk1 0 (h0.1.2 0 (by decide))) rfl (.int (nI nd)) ((t1 0 3 (by omega)).trans e3) ?_
        refine ev_callI 47 [.int (nI kd), .int n, .ref (am1 2), .int (nI nd)] [.ref (am1 (100 + 3 * NT))] d_hc_type_47 hZ (kc_hc_110 (k9 := 2) (mc9 := 2) (ms9 := 12)) (hr_of (by omega) (by decide) (by decide) (by decide)) (ht_ty_init NT kd n nd ta tz hZ hNw hAO hST (by omega) (by omega) hd6 hnd1 (List.mem_append_right _ List.mem_cons_self) (kk1 2 (h0.1.2 2 (by decide))) h0.2.1.2.1 (fun z => (List.mem_append.mp z).elim hnk.2.1 (fun y => by rw [List.mem_singleton] at y; omega)) (fun z => (List.mem_append.mp z).elim hnk.2.2 (fun y => by rw [List.mem_singleton] at y; omega)) (fun h hh => by
          obtain ⟨d1, d2, d3, d4, d5, d6, d7, d8, d9, d10⟩ := hD h hh
          refine ⟨by rw [ha1 _ (by omega)]; exact d1, d2, kk1 _ d3, ?_, ?_, ?_, ?_, d8, d9, d10⟩
          · rw [t1 _ _ (by omega)]; exact d4
          · rw [t1 _ _ (by omega)]; exact d5
          · rw [t1 _ _ (by omega)]; exact d6
          · rw [t1 _ _ (by omega)]; exact d7) (by decide)) (fun r9 w9 hw => ?_)
        obtain ⟨x1, am2, N2, S2, x2, HQ⟩ := hw
        subst x1
        subst x2
        have HQ0 := HQ
        obtain ⟨q1, q2, q3, q4, q5, q6, ⟨f0, f1, f2, f3, f4, f5, f6, f7, f8⟩, -⟩ := HQ
        have eK : K ++ [(100 + 3 * NT)] ++ [(101 + 3 * NT), (102 + 3 * NT)] = K ++ [(100 + 3 * NT), (101 + 3 * NT), (102 + 3 * NT)] := by rw [List.append_assoc]; rfl
        rw [eK]
        have kk : ∀ k, k ∈ K → k ∈ K ++ [(100 + 3 * NT), (101 + 3 * NT), (102 + 3 * NT)] := fun k hk => List.mem_append_left _ hk
        have kT : (100 + 3 * NT) ∈ K ++ [(100 + 3 * NT), (101 + 3 * NT), (102 + 3 * NT)] := List.mem_append_right _ List.mem_cons_self
        have gT := (gk_ty3 NT (by omega)).1
        have hnd2 : va_nd (K ++ [(100 + 3 * NT), (101 + 3 * NT), (102 + 3 * NT)]) = true := by
          have e2 : K ++ [(100 + 3 * NT), (101 + 3 * NT), (102 + 3 * NT)] = K ++ [(100 + 3 * NT)] ++ [(101 + 3 * NT)] ++ [(102 + 3 * NT)] := by rw [List.append_assoc, List.append_assoc]; rfl
          rw [e2]
          refine nd_app (nd_app hnd1 (fun z => (List.mem_append.mp z).elim hnk.2.1 (fun y => by rw [List.mem_singleton] at y; omega))) (fun z => (List.mem_append.mp z).elim (fun z => (List.mem_append.mp z).elim hnk.2.2 (fun y => by rw [List.mem_singleton] at y; omega)) (fun y => by rw [List.mem_singleton] at y; omega))
        have s0 : ∀ j, S2.1 0 j = S.1 0 j := fun j => by rw [q3 0 j (by omega)]; exact t1 0 j (by omega)
        have hcg : ∀ k, k ∈ K → am k = am2 k ∧ gce ks N S k = gce ks N2 S2 k := fun k hk => by
          have k1 : k ≠ (100 + 3 * NT) := fun z => hnk.1 (z ▸ hk)
          have k2 : k ≠ (101 + 3 * NT) := fun z => hnk.2.1 (z ▸ hk)
          have k3 : k ≠ (102 + 3 * NT) := fun z => hnk.2.2 (z ▸ hk)
          refine ⟨by rw [q1 k k2 k3, ha1 k k1], (gce_c ?_ (fun j => ?_) ?_ ?_ ?_).symm⟩
          · rw [q2, va_up_ne _ _ k3, va_up_ne _ _ k2]
          · rw [q3 k j k1]; exact t1 k j k1
          · exact q4 k k3
          · exact q5 k k2
          · rw [q6]; rfl
        refine ev_eq (lv' := [some (.ref (am2 0)), some (.int (nI kd)), some (.int n), none]) (st' := [.ref (am2 (100 + 3 * NT))]) ?_ (h1 := by rw [q1 0 (by omega) (by omega)]) (h2 := by rw [q1 (100 + 3 * NT) (by omega) (by omega)]; rfl)
        refine ev_astore_3 50 d_hc_type_50 ?_ (hn := by exact Nat.le_of_ble_eq_true rfl)
        refine ev_aload_3 51 d_hc_type_51 ?_
        refine gw_get 52 (100 + 3 * NT) 5 d_hc_type_52 lk_hc_113 kT gT (.int (nI (la_dp dr dp nd))) f5 ?_
        refine ev_iconst_5 55 d_hc_type_55 ?_
        refine ev_icmpgt 56 68 d_hc_type_56 (fun c56 => ?_) (fun c56 => ?_)
        · refine gw_drop [(100 + 3 * NT), (101 + 3 * NT), (102 + 3 * NT)] ?_
          refine ev_eq (ws' := gw K am ks N S) ?_ (h3 := (gw_congr hcg).symm)
          refine gw_thr 68 d_hc_type_68 d_hc_type_71 d_hc_type_72 d_hc_type_74 d_hc_type_77 hl hzx tm_119_90 xw_86_90 (by omega) (by exact Nat.le_of_ble_eq_true rfl) (by exact Nat.le_of_ble_eq_true rfl) (by exact Nat.le_of_ble_eq_true rfl) ?_
          exact ⟨rfl, Or.inr (Or.inl ⟨rfl, kd, rfl, hkd, mo_b1 hz1 c12, mo_b1 hz c20, Or.inl c56⟩)⟩
        · refine ev_aload_3 59 d_hc_type_59 ?_
          refine gw_get 60 (100 + 3 * NT) 8 d_hc_type_60 lk_hc_116 kT gT (.int (la_Z kd (la_al dr al nd) (la_en (nI kd) (la_al dr al nd) dr al sz nd))) f8 ?_
          refine ev_bipush (96) 63 d_hc_type_63 (by decide) ?_
          refine ev_icmple 65 78 d_hc_type_65 (fun c65 => ?_) (fun c65 => ?_)
          · refine ev_aload_0 78 d_hc_type_78 ?_
            refine gw_get 79 0 1 d_hc_type_79 lk_hc_15 (kk 0 (h0.1.2 0 (by decide))) rfl (.int (nI NT)) ((s0 1).trans e1) ?_
            refine ev_bipush (32) 82 d_hc_type_82 (by decide) ?_
            refine ev_icmplt 84 97 d_hc_type_84 (fun c84 => ?_) (fun c84 => ?_)
            · have h84 := n_lt NT 32 c84
              have n21 : N2 1 = 32 := by rw [q2, va_up_ne _ _ (by omega), va_up_ne _ _ (by omega)]; exact h0.2.1.1
              refine ev_aload_0 97 d_hc_type_97 ?_
              refine gw_get 98 0 0 d_hc_type_98 lk_hc_11 (kk 0 (h0.1.2 0 (by decide))) rfl (.ref (am2 1)) ((s0 0).trans (by rw [h0.2.2.1, q1 1 (by omega) (by omega), ha1 1 (by omega)])) ?_
              refine ev_aload_0 101 d_hc_type_101 ?_
              refine gw_get 102 0 1 d_hc_type_102 lk_hc_15 (kk 0 (h0.1.2 0 (by decide))) rfl (.int (nI NT)) ((s0 1).trans e1) ?_
              refine ev_aload_3 105 d_hc_type_105 ?_
              refine gw_qst (j := NT) (o := (100 + 3 * NT)) 106 1 d_hc_type_106 hnd2 (kk 1 (h0.1.2 1 (by decide))) rfl (by rw [n21]; exact h84) (by rw [n21]; decide) kT 1 gT (by decide) rfl ?_
              refine ev_aload_0 107 d_hc_type_107 ?_
              refine ev_dup_a 108 d_hc_type_108 ?_
              refine gw_get 109 0 1 d_hc_type_109 lk_hc_15 (kk 0 (h0.1.2 0 (by decide))) rfl (.int (nI NT)) ((s0 1).trans e1) ?_
              refine ev_iconst_1 112 d_hc_type_112 ?_
              refine ev_iadd 113 d_hc_type_113 ?_
              refine ev_topi (nI (NT + 1)) (nI_1 NT) ?_
              refine gw_put 114 0 1 d_hc_type_114 lp_hc_15 hnd2 (kk 0 (h0.1.2 0 (by decide))) rfl (vp_nar_int _) rfl ?_
              refine ev_aload_0 117 d_hc_type_117 ?_
              refine ev_iconst_0 118 d_hc_type_118 ?_
              refine gw_put 119 0 3 d_hc_type_119 lp_hc_22 hnd2 (kk 0 (h0.1.2 0 (by decide))) rfl (vp_nar_int _) rfl ?_
              refine ev_aload_0 122 d_hc_type_122 ?_
              refine gw_get 123 0 1 d_hc_type_123 lk_hc_15 (kk 0 (h0.1.2 0 (by decide))) rfl (.int (nI (NT + 1))) ((gsG_nj (Or.inr (by decide))).trans (gsG_eq _ _ _ _)) ?_
              refine ev_iconst_1 126 d_hc_type_126 ?_
              refine ev_isub 127 d_hc_type_127 ?_
              refine ev_topi (nI NT) (n_s1 (Nat.succ_pos NT)) ?_
              refine ev_pad 4 27 (by exact Nat.le_of_ble_eq_true rfl) (by exact Nat.le_of_ble_eq_true rfl) ?_
              refine ev_toX ?_
              refine ev_iret 128 d_hc_type_128 rfl ?_
              exact ⟨kd, rfl, hkd, mo_b1 hz1 c12, mo_b1 hz c20, c56, Int32.not_lt.mpr c65, h84, rfl, q, am2, N2, S2, rfl, hm1 ▸ HQ0⟩
            · have h84 := n_nlt NT 32 c84
              refine gw_drop [(100 + 3 * NT), (101 + 3 * NT), (102 + 3 * NT)] ?_
              refine ev_eq (ws' := gw K am ks N S) ?_ (h3 := (gw_congr hcg).symm)
              refine gw_thr 87 d_hc_type_87 d_hc_type_90 d_hc_type_91 d_hc_type_93 d_hc_type_96 hl hzx tm_121_97 xw_93_97 (by omega) (by exact Nat.le_of_ble_eq_true rfl) (by exact Nat.le_of_ble_eq_true rfl) (by exact Nat.le_of_ble_eq_true rfl) ?_
              exact ⟨rfl, Or.inr (Or.inr ⟨rfl, kd, rfl, hkd, mo_b1 hz1 c12, mo_b1 hz c20, c56, Int32.not_lt.mpr c65, by omega⟩)⟩
          · refine gw_drop [(100 + 3 * NT), (101 + 3 * NT), (102 + 3 * NT)] ?_
            refine ev_eq (ws' := gw K am ks N S) ?_ (h3 := (gw_congr hcg).symm)
            refine gw_thr 68 d_hc_type_68 d_hc_type_71 d_hc_type_72 d_hc_type_74 d_hc_type_77 hl hzx tm_119_90 xw_86_90 (by omega) (by exact Nat.le_of_ble_eq_true rfl) (by exact Nat.le_of_ble_eq_true rfl) (by exact Nat.le_of_ble_eq_true rfl) ?_
            exact ⟨rfl, Or.inr (Or.inl ⟨rfl, kd, rfl, hkd, mo_b1 hz1 c12, mo_b1 hz c20, Or.inr (Int32.not_le.mp c65)⟩)⟩
      · refine gw_thr 23 d_hc_type_23 d_hc_type_26 d_hc_type_27 d_hc_type_29 d_hc_type_32 hl hzx tm_108_90 xw_86_90 (by omega) (by exact Nat.le_of_ble_eq_true rfl) (by exact Nat.le_of_ble_eq_true rfl) (by exact Nat.le_of_ble_eq_true rfl) ?_
        exact ⟨rfl, Or.inl ⟨rfl, fun w => absurd w.2.2 (mo_b0 hz c20)⟩⟩
