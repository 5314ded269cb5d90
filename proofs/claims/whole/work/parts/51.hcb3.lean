set_option maxHeartbeats 4000000 in
set_option maxRecDepth 100000 in
theorem ht_in_handlesInUse {l : Launch} {D : va_G} {tl : List (ClassId × FieldType)} {Z : (Nat → Prop) → State → Heap → Prop} {K : List Nat} {am : Nat → Nat} {ks : Nat → ClassId} {N : Nat → Nat} {S : gS} {k : Nat} (i : Nat) (hd : Nat → Nat) (hZ : ho_Z Z hd) (hDi : ho_D hd) (hi : i < 6) (ok : in_ok K am N S i) (ho : Nat → Nat) (hho : ∀ h, h < 16 → ho h < 5 ∧ S.1 (203 + 20 * i + h) 3 = .ref (hd (ho h))) : MT (hc_π l D ks tl Z) (m_in_handlesInUse k 0 0) 0 0 [.ref (am (200 + 20 * i))] (gw K am ks N S) (fun r w => w = gw K am ks N S ∧ r = some (.int (nI (hh_us ho 16)))) := by
  refine mt_of pl_in rfl (Nat.le_of_ble_eq_true rfl) (ev_eq (lv' := [some (.ref (am (200 + 20 * i))), none, none]) ?_)
  have L4 : ∀ m j : Nat, 16 - j < m → j ≤ 16 → EV (hc_π l D ks tl Z) (m_in_handlesInUse k 0 0) (ev_E (hc_π l D ks tl Z) 0 0 (fun r w => w = gw K am ks N S ∧ r = some (.int (nI (hh_us ho 16))))) 0 0 4 [some (.ref (am (200 + 20 * i))), some (.int (nI (hh_us ho j))), some (.int (nI j))] [] (gw K am ks N S) := by
    intro m
    induction m with
    | zero => intro j h; omega
    | succ m ih =>
      intro j hm hj
      refine ev_iload_2 4 d_in_handlesInUse_4 ?_
      refine ev_bipush (16) 5 d_in_handlesInUse_5 (by decide) ?_
      refine ev_icmpge 7 34 d_in_handlesInUse_7 (fun c7 => ?_) (fun c7 => ?_)
      · have h7 := n_le 16 j c7
        obtain rfl : j = 16 := by omega
        refine ev_iload_1 34 d_in_handlesInUse_34 ?_
        refine ev_iret 35 d_in_handlesInUse_35 rfl ?_
        exact ⟨rfl, rfl⟩
      · have h7 := n_nle 16 j c7
        refine ev_aload_0 10 d_in_handlesInUse_10 ?_
        refine gw_get 11 (200 + 20 * i) 1 d_in_handlesInUse_11 lk_in_17 ok.1 (gk_in i hi).1 (.ref (am (202 + 20 * i))) ok.2.2.2.2.1 ?_
        refine ev_iload_2 14 d_in_handlesInUse_14 ?_
        refine gw_qld (j := j) 15 (202 + 20 * i) d_in_handlesInUse_15 ok.2.2.1 (gk_in i hi).2.2.1 (by rw [ok.2.2.2.2.2.2.1]; omega) (by rw [ok.2.2.2.2.2.2.1]; decide) _ ((ok.2.2.2.2.2.2.2 j (by omega)).2) ?_
        refine gw_get 16 (203 + 20 * i + j) 3 d_in_handlesInUse_16 lk_in_33 (ok.2.2.2.2.2.2.2 j (by omega)).1 ((gk_in i hi).2.2.2 j (by omega)) (va_rf (some (hd (ho j)))) (hho j (by omega)).2 ?_
        refine ev_gets (v := va_rf (some (hd 0))) 19 d_in_handlesInUse_19 (fun A s z => hZ A s z 0) ls_in_45 ?_
        refine ev_acmpeq 22 28 d_in_handlesInUse_22 (fun c22 => ?_) (fun c22 => ?_)
        · refine ev_iinc_2 28 d_in_handlesInUse_28 ?_ (hn := by exact Nat.le_of_ble_eq_true rfl)
          refine ev_goto 31 4 d_in_handlesInUse_31 ?_
          have hz : ho j = 0 := hDi (ho j) 0 (hho j (by omega)).1 (by decide) (Option.some.inj c22)
          exact ev_eq (ih (j + 1) (by omega) (by omega)) (h1 := by rw [n_i1, hh_us, if_pos hz])
        · refine ev_iinc_1 25 d_in_handlesInUse_25 ?_ (hn := by exact Nat.le_of_ble_eq_true rfl)
          refine ev_iinc_2 28 d_in_handlesInUse_28 ?_ (hn := by exact Nat.le_of_ble_eq_true rfl)
          refine ev_goto 31 4 d_in_handlesInUse_31 ?_
          have hz : ¬ ho j = 0 := fun z => c22 (by rw [z])
          exact ev_eq (ih (j + 1) (by omega) (by omega)) (h1 := by rw [n_i1, n_i1, hh_us, if_neg hz])
  refine ev_iconst_0 0 d_in_handlesInUse_0 ?_
  refine ev_istore_1 1 d_in_handlesInUse_1 ?_ (hn := by exact Nat.le_of_ble_eq_true rfl)
  refine ev_iconst_0 2 d_in_handlesInUse_2 ?_
  refine ev_istore_2 3 d_in_handlesInUse_3 ?_ (hn := by exact Nat.le_of_ble_eq_true rfl)
  exact ev_eq (L4 17 0 (by omega) (by omega))

set_option maxHeartbeats 4000000 in
set_option maxRecDepth 100000 in
theorem ht_in_handleInUse {l : Launch} {D : va_G} {tl : List (ClassId × FieldType)} {Z : (Nat → Prop) → State → Heap → Prop} {K : List Nat} {am : Nat → Nat} {ks : Nat → ClassId} {N : Nat → Nat} {S : gS} {k : Nat} (i : Nat) (x : Int32) (hd : Nat → Nat) (hZ : ho_Z Z hd) (hDi : ho_D hd) (hi : i < 6) (ok : in_ok K am N S i) (ho : Nat → Nat) (hho : ∀ h, h < 16 → ho h < 5 ∧ S.1 (203 + 20 * i + h) 3 = .ref (hd (ho h))) : MT (hc_π l D ks tl Z) (m_in_handleInUse k 0 0) 0 0 [.ref (am (200 + 20 * i)), .int x] (gw K am ks N S) (fun r w => w = gw K am ks N S ∧ (((x < 1 ∨ ¬ x ≤ 16) ∧ r = some .null) ∨ ∃ j, j < 16 ∧ x = nI (j + 1) ∧ (((ho j = 1 ∨ ho j = 2) ∧ r = some (.ref (am (203 + 20 * i + j)))) ∨ (¬ (ho j = 1 ∨ ho j = 2) ∧ r = some .null)))) := by
  refine mt_of pl_in rfl (Nat.le_of_ble_eq_true rfl) (ev_eq (lv' := [some (.ref (am (200 + 20 * i))), some (.int x), none]) ?_)
  refine ev_iload_1 0 d_in_handleInUse_0 ?_
  refine ev_iconst_1 1 d_in_handleInUse_1 ?_
  refine ev_icmplt 2 11 d_in_handleInUse_2 (fun c2 => ?_) (fun c2 => ?_)
  · refine ev_null 11 d_in_handleInUse_11 ?_
    refine ev_aret 12 d_in_handleInUse_12 rfl (Or.inl ⟨_, rfl⟩) (by first | exact Or.inl rfl | exact Or.inr ⟨_, rfl⟩) ?_
    exact ⟨rfl, Or.inl ⟨Or.inl c2, rfl⟩⟩
  · refine ev_iload_1 5 d_in_handleInUse_5 ?_
    refine ev_bipush (16) 6 d_in_handleInUse_6 (by decide) ?_
    refine ev_icmple 8 13 d_in_handleInUse_8 (fun c8 => ?_) (fun c8 => ?_)
    · obtain ⟨j, hj, rfl⟩ : ∃ j, j < 16 ∧ x = nI (j + 1) := by
        obtain ⟨n, h1, h2, h3⟩ := n_rng c2 (fun z => absurd c8 (Int32.not_le.mpr z))
        exact ⟨n - 1, by omega, by rw [h3, show n - 1 + 1 = n by omega]⟩
      refine ev_aload_0 13 d_in_handleInUse_13 ?_
      refine gw_get 14 (200 + 20 * i) 1 d_in_handleInUse_14 lk_in_17 ok.1 (gk_in i hi).1 (.ref (am (202 + 20 * i))) ok.2.2.2.2.1 ?_
      refine ev_iload_1 17 d_in_handleInUse_17 ?_
      refine ev_iconst_1 18 d_in_handleInUse_18 ?_
      refine ev_isub 19 d_in_handleInUse_19 ?_
      refine ev_topi (nI j) (nI_pred j) ?_
      refine gw_qld (j := j) 20 (202 + 20 * i) d_in_handleInUse_20 ok.2.2.1 (gk_in i hi).2.2.1 (by rw [ok.2.2.2.2.2.2.1]; omega) (by rw [ok.2.2.2.2.2.2.1]; decide) _ ((ok.2.2.2.2.2.2.2 j (by omega)).2) ?_
      refine ev_astore_2 21 d_in_handleInUse_21 ?_ (hn := by exact Nat.le_of_ble_eq_true rfl)
      refine ev_aload_2 22 d_in_handleInUse_22 ?_
      refine gw_get 23 (203 + 20 * i + j) 3 d_in_handleInUse_23 lk_in_33 (ok.2.2.2.2.2.2.2 j (by omega)).1 ((gk_in i hi).2.2.2 j (by omega)) (va_rf (some (hd (ho j)))) (hho j (by omega)).2 ?_
      refine ev_gets (v := va_rf (some (hd 1))) 26 d_in_handleInUse_26 (fun A s z => hZ A s z 1) ls_in_37 ?_
      refine ev_acmpeq 29 42 d_in_handleInUse_29 (fun c29 => ?_) (fun c29 => ?_)
      · refine ev_aload_2 42 d_in_handleInUse_42 ?_
        refine ev_goto 43 47 d_in_handleInUse_43 ?_
        refine ev_aret 47 d_in_handleInUse_47 rfl (Or.inl ⟨_, rfl⟩) (by first | exact Or.inl rfl | exact Or.inr ⟨_, rfl⟩) ?_
        exact ⟨rfl, Or.inr ⟨j, hj, rfl, Or.inl ⟨Or.inl (hDi (ho j) 1 (hho j (by omega)).1 (by decide) (Option.some.inj c29)), rfl⟩⟩⟩
      · refine ev_aload_2 32 d_in_handleInUse_32 ?_
        refine gw_get 33 (203 + 20 * i + j) 3 d_in_handleInUse_33 lk_in_33 (ok.2.2.2.2.2.2.2 j (by omega)).1 ((gk_in i hi).2.2.2 j (by omega)) (va_rf (some (hd (ho j)))) (hho j (by omega)).2 ?_
        refine ev_gets (v := va_rf (some (hd 2))) 36 d_in_handleInUse_36 (fun A s z => hZ A s z 2) ls_in_42 ?_
        refine ev_acmpne 39 46 d_in_handleInUse_39 (fun c39 => ?_) (fun c39 => ?_)
        · refine ev_null 46 d_in_handleInUse_46 ?_
          refine ev_aret 47 d_in_handleInUse_47 rfl (Or.inl ⟨_, rfl⟩) (by first | exact Or.inl rfl | exact Or.inr ⟨_, rfl⟩) ?_
          exact ⟨rfl, Or.inr ⟨j, hj, rfl, Or.inr ⟨fun z => z.elim (fun y => c29 (by rw [y])) (fun y => c39 (by rw [y])), rfl⟩⟩⟩
        · refine ev_aload_2 42 d_in_handleInUse_42 ?_
          refine ev_goto 43 47 d_in_handleInUse_43 ?_
          refine ev_aret 47 d_in_handleInUse_47 rfl (Or.inl ⟨_, rfl⟩) (by first | exact Or.inl rfl | exact Or.inr ⟨_, rfl⟩) ?_
          exact ⟨rfl, Or.inr ⟨j, hj, rfl, Or.inl ⟨Or.inr (hDi (ho j) 2 (hho j (by omega)).1 (by decide) (Option.some.inj c39)), rfl⟩⟩⟩
    · refine ev_null 11 d_in_handleInUse_11 ?_
      refine ev_aret 12 d_in_handleInUse_12 rfl (Or.inl ⟨_, rfl⟩) (by first | exact Or.inl rfl | exact Or.inr ⟨_, rfl⟩) ?_
      exact ⟨rfl, Or.inl ⟨Or.inr c8, rfl⟩⟩

set_option maxHeartbeats 4000000 in
set_option maxRecDepth 100000 in
theorem ht_hc_top {l : Launch} {D : va_G} {tl : List (ClassId × FieldType)} {Z : (Nat → Prop) → State → Heap → Prop} {K : List Nat} {am : Nat → Nat} {ks : Nat → ClassId} {N : Nat → Nat} {S : gS} {k : Nat}  (h0 : 0 ∈ K) (Lv : Nat) (hL : S.1 0 11 = .int (nI Lv)) (hL6 : Lv ≤ 6) (h5 : 5 ∈ K) (hN5 : N 5 = 6) (h8 : S.1 0 8 = .ref (am 5)) (hp : 0 < Lv) : MT (hc_π l D ks tl Z) (m_hc_top k 0 0) 0 0 [.ref (am 0)] (gw K am ks N S) (fun r w => w = gw K am ks N S ∧ r = some (.int (S.2.1 5 (Lv - 1)))) := by
  refine mt_of pl_hc rfl (Nat.le_of_ble_eq_true rfl) (ev_eq (lv' := [some (.ref (am 0))]) ?_)
  refine ev_aload_0 0 d_hc_top_0 ?_
  refine gw_get 1 0 8 d_hc_top_1 lk_hc_43 h0 rfl (.ref (am 5)) h8 ?_
  refine ev_aload_0 4 d_hc_top_4 ?_
  refine gw_get 5 0 11 d_hc_top_5 lk_hc_53 h0 rfl (.int (nI Lv)) hL ?_
  refine ev_iconst_1 8 d_hc_top_8 ?_
  refine ev_isub 9 d_hc_top_9 ?_
  refine ev_topi (nI (Lv - 1)) (n_s1 hp) ?_
  refine gw_ild (j := Lv - 1) 10 5 d_hc_top_10 h5 rfl (by rw [hN5]; omega) (by rw [hN5]; decide) _ rfl ?_
  refine ev_iret 11 d_hc_top_11 rfl ?_
  exact ⟨rfl, rfl⟩

set_option maxHeartbeats 4000000 in
set_option maxRecDepth 100000 in
theorem ht_hc_passed {l : Launch} {D : va_G} {tl : List (ClassId × FieldType)} {Z : (Nat → Prop) → State → Heap → Prop} {K : List Nat} {am : Nat → Nat} {ks : Nat → ClassId} {N : Nat → Nat} {S : gS} {k : Nat}  (h0 : 0 ∈ K) (Lv : Nat) (hL : S.1 0 11 = .int (nI Lv)) (hL6 : Lv ≤ 6) (h7 : 7 ∈ K) (hN7 : N 7 = 6) (h10 : S.1 0 10 = .ref (am 7)) : MT (hc_π l D ks tl Z) (m_hc_passed k 0 0) 0 0 [.ref (am 0)] (gw K am ks N S) (fun r w => w = gw K am ks N S ∧ r = some (.int (if Lv = 0 then -1 else S.2.1 7 (Lv - 1)))) := by
  refine mt_of pl_hc rfl (Nat.le_of_ble_eq_true rfl) (ev_eq (lv' := [some (.ref (am 0))]) ?_)
  refine ev_aload_0 0 d_hc_passed_0 ?_
  refine gw_get 1 0 11 d_hc_passed_1 lk_hc_53 h0 rfl (.int (nI Lv)) hL ?_
  refine ev_ifne 4 11 d_hc_passed_4 (fun c4 => ?_) (fun c4 => ?_)
  · have hp : Lv ≠ 0 := fun z => c4 (by rw [z]; rfl)
    refine ev_aload_0 11 d_hc_passed_11 ?_
    refine gw_get 12 0 10 d_hc_passed_12 lk_hc_50 h0 rfl (.ref (am 7)) h10 ?_
    refine ev_aload_0 15 d_hc_passed_15 ?_
    refine gw_get 16 0 11 d_hc_passed_16 lk_hc_53 h0 rfl (.int (nI Lv)) hL ?_
    refine ev_iconst_1 19 d_hc_passed_19 ?_
    refine ev_isub 20 d_hc_passed_20 ?_
    refine ev_topi (nI (Lv - 1)) (n_s1 (by omega)) ?_
    refine gw_ild (j := Lv - 1) 21 7 d_hc_passed_21 h7 rfl (by rw [hN7]; omega) (by rw [hN7]; decide) _ rfl ?_
    refine ev_iret 22 d_hc_passed_22 rfl ?_
    exact ⟨rfl, by rw [if_neg hp]⟩
  · have hp : Lv = 0 := (n_z (by omega)).mp c4
    refine ev_iconst_m1 7 d_hc_passed_7 ?_
    refine ev_goto 8 22 d_hc_passed_8 ?_
    refine ev_iret 22 d_hc_passed_22 rfl ?_
    exact ⟨rfl, by rw [if_pos hp]⟩

set_option maxHeartbeats 4000000 in
set_option maxRecDepth 100000 in
theorem ht_hc_level {l : Launch} {D : va_G} {tl : List (ClassId × FieldType)} {Z : (Nat → Prop) → State → Heap → Prop} {K : List Nat} {am : Nat → Nat} {ks : Nat → ClassId} {N : Nat → Nat} {S : gS} {k : Nat} (x : Int32) (h0 : 0 ∈ K) (Lv : Nat) (hL : S.1 0 11 = .int (nI Lv)) (hL6 : Lv ≤ 6) (h5 : 5 ∈ K) (hN5 : N 5 = 6) (h8 : S.1 0 8 = .ref (am 5)) : MT (hc_π l D ks tl Z) (m_hc_level k 0 0) 0 0 [.ref (am 0), .int x] (gw K am ks N S) (fun r w => w = gw K am ks N S ∧ (((x < 0 ∨ ¬ x < nI Lv) ∧ r = some (.int (-1))) ∨ ∃ j, j < Lv ∧ x = nI j ∧ r = some (.int (S.2.1 5 j)))) := by
  refine mt_of pl_hc rfl (Nat.le_of_ble_eq_true rfl) (ev_eq (lv' := [some (.ref (am 0)), some (.int x)]) ?_)
  refine ev_iload_1 0 d_hc_level_0 ?_
  refine ev_iflt 1 12 d_hc_level_1 (fun c1 => ?_) (fun c1 => ?_)
  · refine ev_iconst_m1 12 d_hc_level_12 ?_
    refine ev_goto 13 22 d_hc_level_13 ?_
    refine ev_iret 22 d_hc_level_22 rfl ?_
    exact ⟨rfl, Or.inl ⟨Or.inl c1, rfl⟩⟩
  · refine ev_iload_1 4 d_hc_level_4 ?_
    refine ev_aload_0 5 d_hc_level_5 ?_
    refine gw_get 6 0 11 d_hc_level_6 lk_hc_53 h0 rfl (.int (nI Lv)) hL ?_
    refine ev_icmplt 9 16 d_hc_level_9 (fun c9 => ?_) (fun c9 => ?_)
    · obtain ⟨j, hj, rfl⟩ : ∃ j, j < Lv ∧ x = nI j := by
        obtain ⟨n, h1, h2⟩ := nI_of c1
        exact ⟨n, n_lt n Lv c9 h2 rfl h1, h2⟩
      refine ev_aload_0 16 d_hc_level_16 ?_
      refine gw_get 17 0 8 d_hc_level_17 lk_hc_43 h0 rfl (.ref (am 5)) h8 ?_
      refine ev_iload_1 20 d_hc_level_20 ?_
      refine gw_ild (j := j) 21 5 d_hc_level_21 h5 rfl (by rw [hN5]; omega) (by rw [hN5]; decide) _ rfl ?_
      refine ev_iret 22 d_hc_level_22 rfl ?_
      exact ⟨rfl, Or.inr ⟨j, hj, rfl, rfl⟩⟩
    · refine ev_iconst_m1 12 d_hc_level_12 ?_
      refine ev_goto 13 22 d_hc_level_13 ?_
      refine ev_iret 22 d_hc_level_22 rfl ?_
      exact ⟨rfl, Or.inl ⟨Or.inr c9, rfl⟩⟩
