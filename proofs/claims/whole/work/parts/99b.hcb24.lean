theorem hc_w0.of {K : List Nat} {am N : Nat → Nat} {S S' : gS} (h : hc_w0 K am N S) (e0 : ∀ j, j ≠ 1 → j ≠ 3 → j ≠ 5 → j ≠ 7 → j ≠ 11 → j ≠ 12 → j ≠ 17 → S'.1 0 j = S.1 0 j) (e1 : ∀ j, j ≠ 3 → S'.1 10 j = S.1 10 j) : hc_w0 K am N S' := by
  obtain ⟨h1, h2, a0, a2, a4, a6, a8, a9, a10, a13, a14, a15, a16, b0, b1, b2⟩ := h
  refine ⟨h1, h2, ?_, ?_, ?_, ?_, ?_, ?_, ?_, ?_, ?_, ?_, ?_, ?_, ?_, ?_⟩
  · rw [e0 0 (by decide) (by decide) (by decide) (by decide) (by decide) (by decide) (by decide)]; exact a0
  · rw [e0 2 (by decide) (by decide) (by decide) (by decide) (by decide) (by decide) (by decide)]; exact a2
  · rw [e0 4 (by decide) (by decide) (by decide) (by decide) (by decide) (by decide) (by decide)]; exact a4
  · rw [e0 6 (by decide) (by decide) (by decide) (by decide) (by decide) (by decide) (by decide)]; exact a6
  · rw [e0 8 (by decide) (by decide) (by decide) (by decide) (by decide) (by decide) (by decide)]; exact a8
  · rw [e0 9 (by decide) (by decide) (by decide) (by decide) (by decide) (by decide) (by decide)]; exact a9
  · rw [e0 10 (by decide) (by decide) (by decide) (by decide) (by decide) (by decide) (by decide)]; exact a10
  · rw [e0 13 (by decide) (by decide) (by decide) (by decide) (by decide) (by decide) (by decide)]; exact a13
  · rw [e0 14 (by decide) (by decide) (by decide) (by decide) (by decide) (by decide) (by decide)]; exact a14
  · rw [e0 15 (by decide) (by decide) (by decide) (by decide) (by decide) (by decide) (by decide)]; exact a15
  · rw [e0 16 (by decide) (by decide) (by decide) (by decide) (by decide) (by decide) (by decide)]; exact a16
  · rw [e1 0 (by decide)]; exact b0
  · rw [e1 1 (by decide)]; exact b1
  · rw [e1 2 (by decide)]; exact b2
theorem in_ok.of {K : List Nat} {am N : Nat → Nat} {S S' : gS} {i : Nat} (h : in_ok K am N S i) (e0 : ∀ j, j < 2 → S'.1 (200 + 20 * i) j = S.1 (200 + 20 * i) j) (e1 : S'.2.2.1 (202 + 20 * i) = S.2.2.1 (202 + 20 * i)) : in_ok K am N S' i := by
  obtain ⟨h1, h2, h3, h4, h5, h6, h7, h8⟩ := h
  refine ⟨h1, h2, h3, ?_, ?_, h6, h7, ?_⟩
  · rw [e0 0 (by decide)]; exact h4
  · rw [e0 1 (by decide)]; exact h5
  · rw [e1]; exact h8
/-- make: a handle of its own, the numbers that count -/
def mk_S (S : gS) (hd : Nat → Nat) (x kd : Nat) (md : Int32) : gS := gsA (gsG (wus S x md (nI kd) (hd 1) .null) 0 12 (.int (md + 1))) 8 kd (S.2.1 8 kd + 1)

theorem wus_n {S : gS} {x : Nat} {a b : Int32} {e : Nat} {v : Value} {k j : Nat} (h : k ≠ x) : (wus S x a b e v).1 k j = S.1 k j := by
  unfold wus
  rw [gsG_nj (Or.inl h), gsG_nj (Or.inl h), gsG_nj (Or.inl h), gsG_nj (Or.inl h), gsG_nj (Or.inl h)]

set_option maxHeartbeats 4000000 in
set_option maxRecDepth 100000 in
theorem hx_hc_make {l : Launch} {D : va_G} {tl : List (ClassId × FieldType)} {Z : (Nat → Prop) → State → Heap → Prop} {K : List Nat} {am : Nat → Nat} {ks : Nat → ClassId} {N : Nat → Nat} {S : gS} {k : Nat} (x : Int32) (hl : l.stackTraces = false) (hzx : hc_ZX Z) (hZ : ev_Zok Z) (h0 : hc_w0 K am N S) {ni : Nat} (hn6 : ni ≤ 6) (e5 : S.1 0 5 = .int (nI ni)) (hins : ∀ i, i < ni → in_ok K am N S i ∧ S.2.2.1 3 i = some (am (200 + 20 * i))) {Lv : Nat} (hL : S.1 0 11 = .int (nI Lv)) (hL6 : Lv ≤ 6) {ru : Nat → Nat} (hru : ∀ k, k < Lv → S.2.1 5 k = nI (ru k) ∧ ru k < ni) {B : Nat → Nat → Int32} (hd : Nat → Nat) (hZ9 : ho_Z Z hd) (hDi : ho_D hd) (hA : HA am hd S B fr0 (lnB B) ni) (hTk : ∀ x, x < 102 → B 20 x = 0) {md : Int32} (hmd : S.1 0 12 = .int md) (hk5 : 5 < k) : MX (hc_π l D ks tl Z) (m_hc_make k 1 6) 1 6 [.ref (am 0), .int x] (gw K am ks N S) (fun r w => 0 < Lv ∧ ∃ kd, kd < 4 ∧ x = nI kd ∧ ¬ (mo_fh (B 16) (17 * (ru (Lv - 1))) 16) = 0 ∧ r = some (.int (nI (mo_fh (B 16) (17 * (ru (Lv - 1))) 16))) ∧ w = gw K am ks N (mk_S S hd (202 + 20 * (ru (Lv - 1)) + (mo_fh (B 16) (17 * (ru (Lv - 1))) 16)) kd md)) (fun E w => w = gw K am ks N S ∧ ((E = "java/lang/IllegalStateException" ∧ Lv = 0) ∨ (E = "java/lang/IllegalArgumentException" ∧ 0 < Lv ∧ ¬ (¬ x < 0 ∧ ¬ 4 ≤ x)) ∨ (E = "java/lang/UnsupportedOperationException" ∧ 0 < Lv ∧ (∃ kd, kd < 4 ∧ x = nI kd) ∧ (mo_fh (B 16) (17 * (ru (Lv - 1))) 16) = 0))) := by
  refine mx_of pl_hc rfl (Nat.le_of_ble_eq_true rfl) (ev_eq (lv' := [some (.ref (am 0)), some (.int x), none, none]) ?_)
  refine ev_aload_0 0 d_hc_make_0 ?_
  refine gw_get 1 0 11 d_hc_make_1 lk_hc_53 (h0.1.2 0 (by decide)) rfl (.int (nI Lv)) hL ?_
  refine ev_ifne 4 17 d_hc_make_4 (fun c4 => ?_) (fun c4 => ?_)
  · have hLp : 0 < Lv := Nat.pos_of_ne_zero (fun z => c4 (by rw [z]; rfl))
    refine ev_iload_1 17 d_hc_make_17 ?_
    refine ev_callS 18 [.int x] [] d_hc_make_18 hZ (kc_hc_198 (k9 := 0) (mc9 := 0) (ms9 := 0)) (hr_of (by omega) (by decide) (by decide) (by decide)) (ht_hc_isResourceKind x) (fun r9 w9 hw => ?_)
    obtain ⟨x1, y, x2, hy⟩ := hw
    subst x1
    subst x2
    refine ev_eq (st' := [.int y]) ?_
    refine ev_ifne 21 34 d_hc_make_21 (fun c21 => ?_) (fun c21 => ?_)
    · obtain ⟨kd, hkd, rfl⟩ : ∃ kd, kd < 4 ∧ x = nI kd := by
        obtain ⟨z1, z2⟩ := mo_b1 hy c21
        obtain ⟨j, hj, rfl⟩ := nI_of z1
        exact ⟨j, n_nle 4 j z2, rfl⟩
      refine ev_aload_0 34 d_hc_make_34 ?_
      refine gw_get 35 0 4 d_hc_make_35 lk_hc_27 (h0.1.2 0 (by decide)) rfl (.ref (am 3)) h0.2.2.2.2.1 ?_
      refine ev_aload_0 38 d_hc_make_38 ?_
      refine gw_callV 39 0 [] [.ref (am 3)] d_hc_make_39 hZ (kc_hc_203 (k9 := 5) (mc9 := 0) (ms9 := 0)) (hr_of (by omega) (by decide) (by decide) (by decide)) (h0.1.2 0 (by decide)) rfl rfl (ht_hc_top (h0.1.2 0 (by decide)) Lv hL hL6 (h0.1.2 5 (by decide)) h0.2.1.2.2.2.2.1 h0.2.2.2.2.2.2.1 hLp) (fun r9 w9 hw => ?_)
      obtain ⟨x1, x2⟩ := hw
      subst x1
      subst x2
      rw [(hru (Lv - 1) (by omega)).1]
      refine ev_eq (st' := [.int (nI (ru (Lv - 1))), .ref (am 3)]) ?_
      have hRn : (ru (Lv - 1)) < ni := (hru (Lv - 1) (by omega)).2
      have hR6 : (ru (Lv - 1)) < 6 := by omega
      have hok := (hins (ru (Lv - 1)) hRn).1
      refine gw_qld (j := (ru (Lv - 1))) 42 3 d_hc_make_42 (h0.1.2 3 (by decide)) rfl (by rw [h0.2.1.2.2.1]; exact hR6) (by rw [h0.2.1.2.2.1]; decide) _ (hins (ru (Lv - 1)) hRn).2 ?_
      refine ev_astore_2 43 d_hc_make_43 ?_ (hn := by exact Nat.le_of_ble_eq_true rfl)
      refine ev_aload_2 44 d_hc_make_44 ?_
      refine gw_callV 45 (200 + 20 * (ru (Lv - 1))) [] [] d_hc_make_45 hZ (kc_hc_207 (k9 := 0) (mc9 := 0) (ms9 := 0)) (hr_of (by omega) (by decide) (by decide) (by decide)) hok.1 (gk_in (ru (Lv - 1)) hR6).1 rfl (ht_in_lowestFreeHandle (ru (Lv - 1)) hd hZ9 hDi hR6 hok (fun h => hof B fr0 (17 * (ru (Lv - 1)) + h + 1)) (fun h hh => ⟨hof_lt _ _ _, (hA (ru (Lv - 1)) h hRn hh).1⟩)) (fun r9 w9 hw => ?_)
      obtain ⟨e1, y9, e2, hy9⟩ := hw
      subst e1
      subst e2
      rw [fr_eq (B := B) (J := (ru (Lv - 1))) (fun j _ => hof0) 16 (Nat.le_refl _)] at hy9
      subst hy9
      refine ev_eq (st' := [.int (hh_ni (mo_fh (B 16) (17 * (ru (Lv - 1))) 16))]) ?_
      refine ev_istore_3 48 d_hc_make_48 ?_ (hn := by exact Nat.le_of_ble_eq_true rfl)
      refine ev_iload_3 49 d_hc_make_49 ?_
      refine ev_iconst_m1 50 d_hc_make_50 ?_
      refine ev_icmpne 51 64 d_hc_make_51 (fun c51 => ?_) (fun c51 => ?_)
      · have hf0 : ¬ (mo_fh (B 16) (17 * (ru (Lv - 1))) 16) = 0 := fun z => c51 (by rw [z]; rfl)
        obtain ⟨f1, f2, f3⟩ := (mo_fh_ok (B 16) (17 * (ru (Lv - 1))) 16 (Nat.le_refl _)).resolve_left hf0
        have eni : hh_ni (mo_fh (B 16) (17 * (ru (Lv - 1))) 16) = nI (mo_fh (B 16) (17 * (ru (Lv - 1))) 16) := if_neg hf0
        rw [eni]
        have kRK : (202 + 20 * (ru (Lv - 1)) + (mo_fh (B 16) (17 * (ru (Lv - 1))) 16)) ∈ K := by rw [← k_pr f1]; exact (hok.2.2.2.2.2.2.2 ((mo_fh (B 16) (17 * (ru (Lv - 1))) 16) - 1) (by omega)).1
        have kRg : gk (202 + 20 * (ru (Lv - 1)) + (mo_fh (B 16) (17 * (ru (Lv - 1))) 16)) = 4 := by rw [← k_pr f1]; exact (gk_in (ru (Lv - 1)) hR6).2.2.2 ((mo_fh (B 16) (17 * (ru (Lv - 1))) 16) - 1) (by omega)
        refine ev_aload_2 64 d_hc_make_64 ?_
        refine gw_get 65 (200 + 20 * (ru (Lv - 1))) 1 d_hc_make_65 lk_hc_212 hok.1 (gk_in (ru (Lv - 1)) hR6).1 (.ref (am (202 + 20 * (ru (Lv - 1))))) hok.2.2.2.2.1 ?_
        refine ev_iload_3 68 d_hc_make_68 ?_
        refine ev_iconst_1 69 d_hc_make_69 ?_
        refine ev_isub 70 d_hc_make_70 ?_
        refine ev_topi (nI ((mo_fh (B 16) (17 * (ru (Lv - 1))) 16) - 1)) (n_s1 (by omega)) ?_
        refine gw_qld (j := (mo_fh (B 16) (17 * (ru (Lv - 1))) 16) - 1) 71 (202 + 20 * (ru (Lv - 1))) d_hc_make_71 hok.2.2.1 (gk_in (ru (Lv - 1)) hR6).2.2.1 (by rw [hok.2.2.2.2.2.2.1]; omega) (by rw [hok.2.2.2.2.2.2.1]; decide) (some (am (202 + 20 * (ru (Lv - 1)) + (mo_fh (B 16) (17 * (ru (Lv - 1))) 16)))) (by rw [← k_pr f1]; exact (hok.2.2.2.2.2.2.2 ((mo_fh (B 16) (17 * (ru (Lv - 1))) 16) - 1) (by omega)).2) ?_
        refine ev_aload_0 72 d_hc_make_72 ?_
        refine gw_get 73 0 12 d_hc_make_73 lk_hc_56 (h0.1.2 0 (by decide)) rfl (.int md) hmd ?_
        refine ev_iload_1 76 d_hc_make_76 ?_
        refine ev_gets (v := .ref (hd 1)) 77 d_hc_make_77 (fun A s z => hZ9 A s z 1) ls_hc_216 ?_
        refine ev_null 80 d_hc_make_80 ?_
        refine gw_callV 81 (202 + 20 * (ru (Lv - 1)) + (mo_fh (B 16) (17 * (ru (Lv - 1))) 16)) [.int md, .int (nI kd), .ref (hd 1), .null] [] d_hc_make_81 hZ (kc_hc_222 (k9 := 0) (mc9 := 0) (ms9 := 0)) (hr_of (by omega) (by decide) (by decide) (by decide)) kRK kRg rfl (ht_ha_useN (202 + 20 * (ru (Lv - 1)) + (mo_fh (B 16) (17 * (ru (Lv - 1))) 16)) md (nI kd) (hd 1) h0.1.1 kRK kRg) (fun r9 w9 hw => ?_)
        obtain ⟨e1, e2⟩ := hw
        subst e1
        subst e2
        refine ev_eq (st' := []) (ws' := gw K am ks N (wus S (202 + 20 * (ru (Lv - 1)) + (mo_fh (B 16) (17 * (ru (Lv - 1))) 16)) md (nI kd) (hd 1) .null)) ?_
        have w1 : ∀ k j, k ≠ (202 + 20 * (ru (Lv - 1)) + (mo_fh (B 16) (17 * (ru (Lv - 1))) 16)) → (wus S (202 + 20 * (ru (Lv - 1)) + (mo_fh (B 16) (17 * (ru (Lv - 1))) 16)) md (nI kd) (hd 1) .null).1 k j = S.1 k j := fun k j hk => wus_n hk
        refine ev_aload_0 84 d_hc_make_84 ?_
        refine ev_dup_a 85 d_hc_make_85 ?_
        refine gw_get 86 0 12 d_hc_make_86 lk_hc_56 (h0.1.2 0 (by decide)) rfl (.int md) ((w1 0 12 (by omega)).trans hmd) ?_
        refine ev_iconst_1 89 d_hc_make_89 ?_
        refine ev_iadd 90 d_hc_make_90 ?_
        refine gw_put 91 0 12 d_hc_make_91 lp_hc_56 h0.1.1 (h0.1.2 0 (by decide)) rfl (vp_nar_int _) rfl ?_
        refine ev_aload_0 94 d_hc_make_94 ?_
        refine gw_get 95 0 13 d_hc_make_95 lk_hc_59 (h0.1.2 0 (by decide)) rfl (.ref (am 8)) ((gsG_nj (Or.inr (by decide))).trans ((w1 0 13 (by omega)).trans h0.2.2.2.2.2.2.2.2.2.1)) ?_
        refine ev_iload_1 98 d_hc_make_98 ?_
        refine ev_dup2 99 d_hc_make_99 ?_
        refine gw_ild (j := kd) 100 8 d_hc_make_100 (h0.1.2 8 (by decide)) rfl (by rw [h0.2.1.2.2.2.2.2.2.2.1]; omega) (by rw [h0.2.1.2.2.2.2.2.2.2.1]; decide) (S.2.1 8 kd) rfl ?_
        refine ev_iconst_1 101 d_hc_make_101 ?_
        refine ev_iadd 102 d_hc_make_102 ?_
        refine gw_ist (j := kd) 103 8 d_hc_make_103 h0.1.1 (h0.1.2 8 (by decide)) rfl (by rw [h0.2.1.2.2.2.2.2.2.2.1]; omega) (by rw [h0.2.1.2.2.2.2.2.2.2.1]; decide) ?_
        refine ev_iload_3 104 d_hc_make_104 ?_
        refine ev_pad 1 6 (by exact Nat.le_of_ble_eq_true rfl) (by exact Nat.le_of_ble_eq_true rfl) ?_
        refine ev_toX ?_
        refine ev_iret 105 d_hc_make_105 rfl ?_
        exact ⟨hLp, kd, hkd, rfl, hf0, rfl, rfl⟩
      · have hf0 : (mo_fh (B 16) (17 * (ru (Lv - 1))) 16) = 0 := by
          by_cases z : (mo_fh (B 16) (17 * (ru (Lv - 1))) 16) = 0
          · exact z
          · obtain ⟨f1, f2, f3⟩ := (mo_fh_ok (B 16) (17 * (ru (Lv - 1))) 16 (Nat.le_refl _)).resolve_left z
            rw [hh_ni, if_neg z] at c51
            exact absurd c51 (n_m1n _ (by omega))
        refine gw_thr 54 d_hc_make_54 d_hc_make_57 d_hc_make_58 d_hc_make_60 d_hc_make_63 hl hzx tm_210_160 xw_156_160 (by omega) (by exact Nat.le_of_ble_eq_true rfl) (by exact Nat.le_of_ble_eq_true rfl) (by exact Nat.le_of_ble_eq_true rfl) ?_
        exact ⟨rfl, Or.inr (Or.inr ⟨rfl, hLp, ⟨kd, hkd, rfl⟩, hf0⟩)⟩
    · refine gw_thr 24 d_hc_make_24 d_hc_make_27 d_hc_make_28 d_hc_make_30 d_hc_make_33 hl hzx tm_201_90 xw_86_90 (by omega) (by exact Nat.le_of_ble_eq_true rfl) (by exact Nat.le_of_ble_eq_true rfl) (by exact Nat.le_of_ble_eq_true rfl) ?_
      exact ⟨rfl, Or.inr (Or.inl ⟨rfl, hLp, mo_b0 hy c21⟩)⟩
  · have hL0 : Lv = 0 := (n_z (by omega)).mp c4
    refine gw_thr 7 d_hc_make_7 d_hc_make_10 d_hc_make_11 d_hc_make_13 d_hc_make_16 hl hzx tm_196_97 xw_93_97 (by omega) (by exact Nat.le_of_ble_eq_true rfl) (by exact Nat.le_of_ble_eq_true rfl) (by exact Nat.le_of_ble_eq_true rfl) ?_
    exact ⟨rfl, Or.inl ⟨rfl, hL0⟩⟩

theorem n_lt1 {j : Nat} (h : 1 ≤ j) (h2 : j < 2147483648) : ¬ nI j < 1 := by
  rw [Int32.not_lt, Int32.le_iff_toInt_le, nI_toInt h2]
  show (1 : Int) ≤ _
  omega

set_option maxHeartbeats 4000000 in
set_option maxRecDepth 100000 in
theorem hx_hc_drop {l : Launch} {D : va_G} {tl : List (ClassId × FieldType)} {Z : (Nat → Prop) → State → Heap → Prop} {K : List Nat} {am : Nat → Nat} {ks : Nat → ClassId} {N : Nat → Nat} {S : gS} {k : Nat} (x : Int32) (hl : l.stackTraces = false) (hzx : hc_ZX Z) (hZ : ev_Zok Z) (h0 : hc_w0 K am N S) {ni : Nat} (hn6 : ni ≤ 6) (e5 : S.1 0 5 = .int (nI ni)) (hins : ∀ i, i < ni → in_ok K am N S i ∧ S.2.2.1 3 i = some (am (200 + 20 * i))) {Lv : Nat} (hL : S.1 0 11 = .int (nI Lv)) (hL6 : Lv ≤ 6) {ru : Nat → Nat} (hru : ∀ k, k < Lv → S.2.1 5 k = nI (ru k) ∧ ru k < ni) {B : Nat → Nat → Int32} (hd : Nat → Nat) (hZ9 : ho_Z Z hd) (hDi : ho_D hd) (hA : HA am hd S B fr0 (lnB B) ni) (hTk : ∀ x, x < 102 → B 20 x = 0) (h23 : ∀ y, y < 102 → ¬ B 16 y = 0 → ∃ kd, kd < 4 ∧ B 23 (B 17 y).toNatClampNeg = nI kd) (hk5 : 5 < k) : MX (hc_π l D ks tl Z) (m_hc_drop k 1 6) 1 6 [.ref (am 0), .int x] (gw K am ks N S) (fun r w => 0 < Lv ∧ ∃ h9, h9 < 16 ∧ x = nI (h9 + 1) ∧ ¬ B 16 (17 * (ru (Lv - 1)) + h9 + 1) = 0 ∧ lnB B (17 * (ru (Lv - 1)) + h9 + 1) ≤ 0 ∧ ((¬ B 18 (17 * (ru (Lv - 1)) + h9 + 1) = 0 ∧ r = some (.int 1) ∧ ∃ kd, kd < 4 ∧ B 23 (B 17 (17 * (ru (Lv - 1)) + h9 + 1)).toNatClampNeg = nI kd ∧ w = gw K am ks N (hd_S S hd (203 + 20 * (ru (Lv - 1)) + h9) kd)) ∨ (B 18 (17 * (ru (Lv - 1)) + h9 + 1) = 0 ∧ r = some (.int 0) ∧ ∃ i' h', i' < ni ∧ h' < 16 ∧ B 19 (17 * (ru (Lv - 1)) + h9 + 1) = nI (17 * i' + h' + 1) ∧ w = gw K am ks N (gsG (hl_e0 S hd (203 + 20 * (ru (Lv - 1)) + h9)) (203 + 20 * i' + h') 2 (.int (lnB B (17 * i' + h' + 1) - 1)))))) (fun E w => w = gw K am ks N S ∧ ((E = "java/lang/IllegalStateException" ∧ Lv = 0) ∨ (E = "java/util/NoSuchElementException" ∧ 0 < Lv ∧ ∀ j, 1 ≤ j → j ≤ 16 → x = nI j → B 16 (17 * (ru (Lv - 1)) + j) = 0) ∨ (E = "java/lang/UnsupportedOperationException" ∧ 0 < Lv ∧ ∃ h9, h9 < 16 ∧ x = nI (h9 + 1) ∧ ¬ B 16 (17 * (ru (Lv - 1)) + h9 + 1) = 0 ∧ ¬ lnB B (17 * (ru (Lv - 1)) + h9 + 1) ≤ 0))) := by
  refine mx_of pl_hc rfl (Nat.le_of_ble_eq_true rfl) (ev_eq (lv' := [some (.ref (am 0)), some (.int x), none]) ?_)
  have LN : 0 < Lv → (∀ j, 1 ≤ j → j ≤ 16 → x = nI j → B 16 (17 * (ru (Lv - 1)) + j) = 0) → EV (hc_π l D ks tl Z) (m_hc_drop k 1 6) (ev_EX (hc_π l D ks tl Z) 1 6 (fun r w => 0 < Lv ∧ ∃ h9, h9 < 16 ∧ x = nI (h9 + 1) ∧ ¬ B 16 (17 * (ru (Lv - 1)) + h9 + 1) = 0 ∧ lnB B (17 * (ru (Lv - 1)) + h9 + 1) ≤ 0 ∧ ((¬ B 18 (17 * (ru (Lv - 1)) + h9 + 1) = 0 ∧ r = some (.int 1) ∧ ∃ kd, kd < 4 ∧ B 23 (B 17 (17 * (ru (Lv - 1)) + h9 + 1)).toNatClampNeg = nI kd ∧ w = gw K am ks N (hd_S S hd (203 + 20 * (ru (Lv - 1)) + h9) kd)) ∨ (B 18 (17 * (ru (Lv - 1)) + h9 + 1) = 0 ∧ r = some (.int 0) ∧ ∃ i' h', i' < ni ∧ h' < 16 ∧ B 19 (17 * (ru (Lv - 1)) + h9 + 1) = nI (17 * i' + h' + 1) ∧ w = gw K am ks N (gsG (hl_e0 S hd (203 + 20 * (ru (Lv - 1)) + h9)) (203 + 20 * i' + h') 2 (.int (lnB B (17 * i' + h' + 1) - 1)))))) (fun E w => w = gw K am ks N S ∧ ((E = "java/lang/IllegalStateException" ∧ Lv = 0) ∨ (E = "java/util/NoSuchElementException" ∧ 0 < Lv ∧ ∀ j, 1 ≤ j → j ≤ 16 → x = nI j → B 16 (17 * (ru (Lv - 1)) + j) = 0) ∨ (E = "java/lang/UnsupportedOperationException" ∧ 0 < Lv ∧ ∃ h9, h9 < 16 ∧ x = nI (h9 + 1) ∧ ¬ B 16 (17 * (ru (Lv - 1)) + h9 + 1) = 0 ∧ ¬ lnB B (17 * (ru (Lv - 1)) + h9 + 1) ≤ 0)))) 0 0 30 [some (.ref (am 0)), some (.int x), none] [.null] (gw K am ks N S) := by
    intro hLp hu
    refine ev_astoreN_2 30 d_hc_drop_30 ?_ (hn := by exact Nat.le_of_ble_eq_true rfl)
    refine ev_aloadN_2 31 d_hc_drop_31 ?_
    refine ev_ifnonnullN 32 d_hc_drop_32 ?_
    refine gw_thr 35 d_hc_drop_35 d_hc_drop_38 d_hc_drop_39 d_hc_drop_41 d_hc_drop_44 hl hzx tm_234_236 xw_232_236 (by omega) (by exact Nat.le_of_ble_eq_true rfl) (by exact Nat.le_of_ble_eq_true rfl) (by exact Nat.le_of_ble_eq_true rfl) ?_
    exact ⟨rfl, Or.inr (Or.inl ⟨rfl, hLp, hu⟩)⟩
  have LR : ∀ h9 : Nat, 0 < Lv → h9 < 16 → x = nI (h9 + 1) → ¬ B 16 (17 * (ru (Lv - 1)) + h9 + 1) = 0 → EV (hc_π l D ks tl Z) (m_hc_drop k 1 6) (ev_EX (hc_π l D ks tl Z) 1 6 (fun r w => 0 < Lv ∧ ∃ h9, h9 < 16 ∧ x = nI (h9 + 1) ∧ ¬ B 16 (17 * (ru (Lv - 1)) + h9 + 1) = 0 ∧ lnB B (17 * (ru (Lv - 1)) + h9 + 1) ≤ 0 ∧ ((¬ B 18 (17 * (ru (Lv - 1)) + h9 + 1) = 0 ∧ r = some (.int 1) ∧ ∃ kd, kd < 4 ∧ B 23 (B 17 (17 * (ru (Lv - 1)) + h9 + 1)).toNatClampNeg = nI kd ∧ w = gw K am ks N (hd_S S hd (203 + 20 * (ru (Lv - 1)) + h9) kd)) ∨ (B 18 (17 * (ru (Lv - 1)) + h9 + 1) = 0 ∧ r = some (.int 0) ∧ ∃ i' h', i' < ni ∧ h' < 16 ∧ B 19 (17 * (ru (Lv - 1)) + h9 + 1) = nI (17 * i' + h' + 1) ∧ w = gw K am ks N (gsG (hl_e0 S hd (203 + 20 * (ru (Lv - 1)) + h9)) (203 + 20 * i' + h') 2 (.int (lnB B (17 * i' + h' + 1) - 1)))))) (fun E w => w = gw K am ks N S ∧ ((E = "java/lang/IllegalStateException" ∧ Lv = 0) ∨ (E = "java/util/NoSuchElementException" ∧ 0 < Lv ∧ ∀ j, 1 ≤ j → j ≤ 16 → x = nI j → B 16 (17 * (ru (Lv - 1)) + j) = 0) ∨ (E = "java/lang/UnsupportedOperationException" ∧ 0 < Lv ∧ ∃ h9, h9 < 16 ∧ x = nI (h9 + 1) ∧ ¬ B 16 (17 * (ru (Lv - 1)) + h9 + 1) = 0 ∧ ¬ lnB B (17 * (ru (Lv - 1)) + h9 + 1) ≤ 0)))) 0 0 30 [some (.ref (am 0)), some (.int x), none] [.ref (am (203 + 20 * (ru (Lv - 1)) + h9))] (gw K am ks N S) := by
    intro h9 hLp h16 hx hu
    have hRn : (ru (Lv - 1)) < ni := (hru (Lv - 1) (by omega)).2
    have hR6 : (ru (Lv - 1)) < 6 := by omega
    have hok := (hins (ru (Lv - 1)) hRn).1
    obtain ⟨a1, a2, a3⟩ := hA (ru (Lv - 1)) h9 hRn h16
    obtain ⟨b0, b1, b4⟩ := a3 hu
    have kK := (hok.2.2.2.2.2.2.2 h9 h16).1
    have kg := (gk_in (ru (Lv - 1)) hR6).2.2.2 h9 h16
    obtain ⟨kd, hkd, ekd⟩ := h23 (17 * (ru (Lv - 1)) + h9 + 1) (by omega) hu
    rw [ekd] at b1
    have h12 := (hof12 (B := B) (x := (17 * (ru (Lv - 1)) + h9 + 1))).mpr ⟨hu, hTk _ (by omega)⟩
    refine ev_astore_2 30 d_hc_drop_30 ?_ (hn := by exact Nat.le_of_ble_eq_true rfl)
    refine ev_aload_2 31 d_hc_drop_31 ?_
    refine ev_ifnonnull 32 45 d_hc_drop_32 ?_
    refine ev_aload_2 45 d_hc_drop_45 ?_
    refine gw_get 46 (203 + 20 * (ru (Lv - 1)) + h9) 2 d_hc_drop_46 lk_hc_237 kK kg (.int (lnB B (17 * (ru (Lv - 1)) + h9 + 1))) a2 ?_
    refine ev_ifle 49 62 d_hc_drop_49 (fun c49 => ?_) (fun c49 => ?_)
    · refine ev_aload_2 62 d_hc_drop_62 ?_
      refine gw_get 63 (203 + 20 * (ru (Lv - 1)) + h9) 3 d_hc_drop_63 lk_hc_242 kK kg (va_rf (some (hd (hof B fr0 (17 * (ru (Lv - 1)) + h9 + 1))))) a1 ?_
      refine ev_gets (v := va_rf (some (hd 1))) 66 d_hc_drop_66 (fun A s z => hZ9 A s z 1) ls_hc_216 ?_
      refine ev_acmpne 69 79 d_hc_drop_69 (fun c69 => ?_) (fun c69 => ?_)
      · have h2 : hof B fr0 (17 * (ru (Lv - 1)) + h9 + 1) = 2 := h12.resolve_left (fun z => c69 (by rw [z]))
        obtain ⟨i', h', hi', hh', q1, q2, -⟩ := b4 (hof2 h2).2
        refine ev_aload_2 79 d_hc_drop_79 ?_
        refine gw_callV 80 (203 + 20 * (ru (Lv - 1)) + h9) [] [] d_hc_drop_80 hZ (kc_hc_249 (k9 := 0) (mc9 := 0) (ms9 := 0)) (hr_of (by omega) (by decide) (by decide) (by decide)) kK kg rfl (ht_ha_endLoanR (203 + 20 * (ru (Lv - 1)) + h9) hd hZ9 h0.1.1 kK kg (203 + 20 * i' + h') ((hins i' hi').1.2.2.2.2.2.2.2 h' hh').1 ((gk_in i' (by omega)).2.2.2 h' hh') q2 (lnB B (17 * i' + h' + 1)) (hA i' h' hi' hh').2.1) (fun r9 w9 hw => ?_)
        obtain ⟨e1, e2⟩ := hw
        subst e1
        subst e2
        refine ev_eq (st' := []) ?_
        refine ev_iconst_0 83 d_hc_drop_83 ?_
        refine ev_pad 1 6 (by exact Nat.le_of_ble_eq_true rfl) (by exact Nat.le_of_ble_eq_true rfl) ?_
        refine ev_toX ?_
        refine ev_zret 84 d_hc_drop_84 rfl ?_ ?_
        · rfl
        exact ⟨hLp, h9, h16, hx, hu, c49, Or.inr ⟨(hof2 h2).2, rfl, i', h', hi', hh', q1, rfl⟩⟩
      · have h1 := hDi (hof B fr0 (17 * (ru (Lv - 1)) + h9 + 1)) 1 (hof_lt _ _ _) (by decide) (Option.some.inj c69)
        refine ev_aload_0 72 d_hc_drop_72 ?_
        refine ev_aload_2 73 d_hc_drop_73 ?_
        refine gw_callV 74 0 [.ref (am (203 + 20 * (ru (Lv - 1)) + h9))] [] d_hc_drop_74 hZ (kc_hc_245 (k9 := 0) (mc9 := 0) (ms9 := 0)) (hr_of (by omega) (by decide) (by decide) (by decide)) (h0.1.2 0 (by decide)) rfl rfl (ht_hc_destroy (203 + 20 * (ru (Lv - 1)) + h9) hd hZ9 h0 kK kg kd hkd b1 (by omega)) (fun r9 w9 hw => ?_)
        obtain ⟨e1, e2⟩ := hw
        subst e1
        subst e2
        refine ev_eq (st' := []) ?_
        refine ev_iconst_1 77 d_hc_drop_77 ?_
        refine ev_pad 1 6 (by exact Nat.le_of_ble_eq_true rfl) (by exact Nat.le_of_ble_eq_true rfl) ?_
        refine ev_toX ?_
        refine ev_zret 78 d_hc_drop_78 rfl ?_ ?_
        · rfl
        exact ⟨hLp, h9, h16, hx, hu, c49, Or.inl ⟨(hof1 h1).2.2, rfl, kd, hkd, ekd, rfl⟩⟩
    · refine gw_thr 52 d_hc_drop_52 d_hc_drop_55 d_hc_drop_56 d_hc_drop_58 d_hc_drop_61 hl hzx tm_240_160 xw_156_160 (by omega) (by exact Nat.le_of_ble_eq_true rfl) (by exact Nat.le_of_ble_eq_true rfl) (by exact Nat.le_of_ble_eq_true rfl) ?_
      exact ⟨rfl, Or.inr (Or.inr ⟨rfl, hLp, h9, h16, hx, hu, fun z => c49 z⟩)⟩
  refine ev_aload_0 0 d_hc_drop_0 ?_
  refine gw_get 1 0 11 d_hc_drop_1 lk_hc_53 (h0.1.2 0 (by decide)) rfl (.int (nI Lv)) hL ?_
  refine ev_ifne 4 17 d_hc_drop_4 (fun c4 => ?_) (fun c4 => ?_)
  · have hLp : 0 < Lv := Nat.pos_of_ne_zero (fun z => c4 (by rw [z]; rfl))
    refine ev_aload_0 17 d_hc_drop_17 ?_
    refine gw_get 18 0 4 d_hc_drop_18 lk_hc_27 (h0.1.2 0 (by decide)) rfl (.ref (am 3)) h0.2.2.2.2.1 ?_
    refine ev_aload_0 21 d_hc_drop_21 ?_
    refine gw_callV 22 0 [] [.ref (am 3)] d_hc_drop_22 hZ (kc_hc_203 (k9 := 5) (mc9 := 0) (ms9 := 0)) (hr_of (by omega) (by decide) (by decide) (by decide)) (h0.1.2 0 (by decide)) rfl rfl (ht_hc_top (h0.1.2 0 (by decide)) Lv hL hL6 (h0.1.2 5 (by decide)) h0.2.1.2.2.2.2.1 h0.2.2.2.2.2.2.1 hLp) (fun r9 w9 hw => ?_)
    obtain ⟨x1, x2⟩ := hw
    subst x1
    subst x2
    rw [(hru (Lv - 1) (by omega)).1]
    refine ev_eq (st' := [.int (nI (ru (Lv - 1))), .ref (am 3)]) ?_
    have hRn : (ru (Lv - 1)) < ni := (hru (Lv - 1) (by omega)).2
    have hR6 : (ru (Lv - 1)) < 6 := by omega
    have hok := (hins (ru (Lv - 1)) hRn).1
    refine gw_qld (j := (ru (Lv - 1))) 25 3 d_hc_drop_25 (h0.1.2 3 (by decide)) rfl (by rw [h0.2.1.2.2.1]; exact hR6) (by rw [h0.2.1.2.2.1]; decide) _ (hins (ru (Lv - 1)) hRn).2 ?_
    refine ev_iload_1 26 d_hc_drop_26 ?_
    refine gw_callV 27 (200 + 20 * (ru (Lv - 1))) [.int x] [] d_hc_drop_27 hZ (kc_hc_228 (k9 := 0) (mc9 := 0) (ms9 := 0)) (hr_of (by omega) (by decide) (by decide) (by decide)) hok.1 (gk_in (ru (Lv - 1)) hR6).1 rfl (ht_in_handleInUse (ru (Lv - 1)) x hd hZ9 hDi hR6 hok (fun h => hof B fr0 (17 * (ru (Lv - 1)) + h + 1)) (fun h hh => ⟨hof_lt _ _ _, (hA (ru (Lv - 1)) h hRn hh).1⟩)) (fun r9 w9 hw => ?_)
    obtain ⟨x1, hw⟩ := hw
    subst x1
    rcases hw with ⟨hx, x2⟩ | ⟨h9, hh9, hx, hw⟩
    · subst x2
      refine ev_eq (LN hLp (fun j j1 j2 e => ?_))
      subst e
      exact absurd hx (fun z => z.elim (n_lt1 j1 (by omega)) (fun y => y (nI_le (b := 16) j2 (by decide))))
    · rcases hw with ⟨hx2, x2⟩ | ⟨hx2, x2⟩
      · subst x2
        exact ev_eq (LR h9 hLp hh9 hx (hof12.mp hx2).1)
      · subst x2
        refine ev_eq (LN hLp (fun j j1 j2 e => Decidable.byContradiction (fun z => hx2 (hof12.mpr ⟨?_, hTk _ (by omega)⟩))))
        have ej : j = h9 + 1 := n_eq j (h9 + 1) (e.symm.trans hx)
        subst ej
        exact z
  · have hL0 : Lv = 0 := (n_z (by omega)).mp c4
    refine gw_thr 7 d_hc_drop_7 d_hc_drop_10 d_hc_drop_11 d_hc_drop_13 d_hc_drop_16 hl hzx tm_196_97 xw_93_97 (by omega) (by exact Nat.le_of_ble_eq_true rfl) (by exact Nat.le_of_ble_eq_true rfl) (by exact Nat.le_of_ble_eq_true rfl) ?_
    exact ⟨rfl, Or.inl ⟨rfl, hL0⟩⟩

/-- close: what it does to the first n handles, and how many it destroys -/
def cs_k (B : Nat → Nat → Int32) (j n : Nat) : Nat := (B 23 (B 17 (17 * j + n + 1)).toNatClampNeg).toNatClampNeg
def cs_S (S : gS) (hd : Nat → Nat) (B : Nat → Nat → Int32) (j : Nat) : Nat → gS × Nat
  | 0 => (gsG S (200 + 20 * j) 3 (.int 3), 0)
  | n + 1 => if hof B fr0 (17 * j + n + 1) = 1 then (hd_S (cs_S S hd B j n).1 hd (203 + 20 * j + n) (cs_k B j n), (cs_S S hd B j n).2 + 1) else cs_S S hd B j n
theorem cs_g (S : gS) (hd : Nat → Nat) (B : Nat → Nat → Int32) (j k p : Nat) (h3 : k ≠ 200 + 20 * j ∨ p ≠ 3) : ∀ n, (p ≠ 3 ∨ ∀ h, h < n → k ≠ 203 + 20 * j + h) → (cs_S S hd B j n).1.1 k p = S.1 k p := by
  intro n
  induction n with
  | zero => intro _; exact gsG_nj h3
  | succ n ih =>
    intro hh
    have h1 := ih (hh.imp_right (fun z h hn => z h (by omega)))
    rw [cs_S]
    split
    · refine Eq.trans ?_ h1
      exact gsG_nj (S := (cs_S S hd B j n).1) (hh.elim Or.inr (fun z => Or.inl (z n (by omega))))
    · exact h1
theorem cs_q (S : gS) (hd : Nat → Nat) (B : Nat → Nat → Int32) (j : Nat) : ∀ n, (cs_S S hd B j n).1.2.2 = S.2.2 := by
  intro n
  induction n with
  | zero => rfl
  | succ n ih =>
    rw [cs_S]
    split
    · exact ih
    · exact ih
theorem cs_a (S : gS) (hd : Nat → Nat) (B : Nat → Nat → Int32) (j k : Nat) (h8 : k ≠ 8) (h9 : k ≠ 9) : ∀ n, (cs_S S hd B j n).1.2.1 k = S.2.1 k := by
  intro n
  induction n with
  | zero => rfl
  | succ n ih =>
    rw [cs_S]
    split
    · refine Eq.trans ?_ ih
      exact (up2_ne _ _ h9).trans (up2_ne _ _ h8)
    · exact ih

set_option maxHeartbeats 4000000 in
set_option maxRecDepth 100000 in
theorem hx_hc_close {l : Launch} {D : va_G} {tl : List (ClassId × FieldType)} {Z : (Nat → Prop) → State → Heap → Prop} {K : List Nat} {am : Nat → Nat} {ks : Nat → ClassId} {N : Nat → Nat} {S : gS} {k : Nat} (i : Int32) (hl : l.stackTraces = false) (hzx : hc_ZX Z) (hZ : ev_Zok Z) (h0 : hc_w0 K am N S) {ni : Nat} (hn6 : ni ≤ 6) (e5 : S.1 0 5 = .int (nI ni)) (hins : ∀ i, i < ni → in_ok K am N S i ∧ S.2.2.1 3 i = some (am (200 + 20 * i))) {b15 : Nat → Int32} (h15 : ∀ i, i < ni → S.1 (200 + 20 * i) 3 = .int (b15 i)) {B : Nat → Nat → Int32} (hd : Nat → Nat) (hZ9 : ho_Z Z hd) (hDi : ho_D hd) (hA : HA am hd S B fr0 (lnB B) ni) (hTk : ∀ x, x < 102 → B 20 x = 0) (h23 : ∀ y, y < 102 → ¬ B 16 y = 0 → ∃ kd, kd < 4 ∧ B 23 (B 17 y).toNatClampNeg = nI kd) (hk5 : 5 < k) : MX (hc_π l D ks tl Z) (m_hc_close k 1 6) 1 6 [.ref (am 0), .int i] (gw K am ks N S) (fun r w => ∃ j, j < ni ∧ i = nI j ∧ ¬ b15 j = 1 ∧ ¬ b15 j = 3 ∧ r = some (.int (nI (cs_S S hd B j 16).2)) ∧ w = gw K am ks N (cs_S S hd B j 16).1) (fun E w => w = gw K am ks N S ∧ ((E = "java/lang/IllegalArgumentException" ∧ ¬ (¬ i < 0 ∧ ¬ nI ni ≤ i)) ∨ (E = "java/lang/IllegalStateException" ∧ ∃ j, j < ni ∧ i = nI j ∧ (b15 j = 1 ∨ b15 j = 3)))) := by
  refine mx_of pl_hc rfl (Nat.le_of_ble_eq_true rfl) (ev_eq (lv' := [some (.ref (am 0)), some (.int i), none, none, none]) ?_)
  have LL : ∀ m j n : Nat, j < ni → i = nI j → ¬ b15 j = 1 → ¬ b15 j = 3 → 16 - n < m → n ≤ 16 → EV (hc_π l D ks tl Z) (m_hc_close k 1 6) (ev_EX (hc_π l D ks tl Z) 1 6 (fun r w => ∃ j, j < ni ∧ i = nI j ∧ ¬ b15 j = 1 ∧ ¬ b15 j = 3 ∧ r = some (.int (nI (cs_S S hd B j 16).2)) ∧ w = gw K am ks N (cs_S S hd B j 16).1) (fun E w => w = gw K am ks N S ∧ ((E = "java/lang/IllegalArgumentException" ∧ ¬ (¬ i < 0 ∧ ¬ nI ni ≤ i)) ∨ (E = "java/lang/IllegalStateException" ∧ ∃ j, j < ni ∧ i = nI j ∧ (b15 j = 1 ∨ b15 j = 3))))) 0 0 62 [some (.ref (am 0)), some (.int (nI j)), some (.ref (am (200 + 20 * j))), some (.int (nI (cs_S S hd B j n).2)), some (.int (nI n))] [] (gw K am ks N (cs_S S hd B j n).1) := by
    intro m
    induction m with
    | zero => intro j n _ _ _ _ z; omega
    | succ m ih =>
      intro j n hj ei c1 c3 hm hn
      have ok := (hins j hj).1.of (S' := (cs_S S hd B j n).1) (fun p hp => cs_g S hd B j _ p (Or.inr (by omega)) n (Or.inl (by omega))) (by rw [cs_q])
      have w0 : hc_w0 K am N (cs_S S hd B j n).1 := h0.of (fun p _ _ _ _ _ _ _ => cs_g S hd B j 0 p (Or.inl (by omega)) n (Or.inr (fun h _ => by omega))) (fun p _ => cs_g S hd B j 10 p (Or.inl (by omega)) n (Or.inr (fun h _ => by omega)))
      have hi6 : j < 6 := by omega
      refine ev_iload_4 62 d_hc_close_62 ?_
      refine ev_bipush (16) 64 d_hc_close_64 (by decide) ?_
      refine ev_icmpge 66 105 d_hc_close_66 (fun c66 => ?_) (fun c66 => ?_)
      · have h66 : n = 16 := by have := n_le 16 n c66; omega
        subst h66
        refine ev_iload_3 105 d_hc_close_105 ?_
        refine ev_pad 1 6 (by exact Nat.le_of_ble_eq_true rfl) (by exact Nat.le_of_ble_eq_true rfl) ?_
        refine ev_toX ?_
        refine ev_iret 106 d_hc_close_106 rfl ?_
        exact ⟨j, hj, ei, c1, c3, rfl, rfl⟩
      · have h66 := n_nle 16 n c66
        refine ev_aload_2 69 d_hc_close_69 ?_
        refine gw_get 70 (200 + 20 * j) 1 d_hc_close_70 lk_hc_212 ok.1 (gk_in j hi6).1 (.ref (am (202 + 20 * j))) ok.2.2.2.2.1 ?_
        refine ev_iload_4 73 d_hc_close_73 ?_
        refine gw_qld (j := n) 75 (202 + 20 * j) d_hc_close_75 ok.2.2.1 (gk_in j hi6).2.2.1 (by rw [ok.2.2.2.2.2.2.1]; omega) (by rw [ok.2.2.2.2.2.2.1]; decide) _ ((ok.2.2.2.2.2.2.2 n (by omega)).2) ?_
        refine gw_get 76 (203 + 20 * j + n) 3 d_hc_close_76 lk_hc_242 (ok.2.2.2.2.2.2.2 n (by omega)).1 ((gk_in j hi6).2.2.2 n (by omega)) (va_rf (some (hd (hof B fr0 (17 * j + n + 1))))) ((cs_g S hd B j _ 3 (Or.inl (by omega)) n (Or.inr (fun h _ => by omega))).trans (hA j n hj (by omega)).1) ?_
        refine ev_gets (v := va_rf (some (hd 1))) 79 d_hc_close_79 (fun A s z => hZ9 A s z 1) ls_hc_216 ?_
        refine ev_acmpne 82 99 d_hc_close_82 (fun c82 => ?_) (fun c82 => ?_)
        · have hne : ¬ hof B fr0 (17 * j + n + 1) = 1 := fun z => c82 (by rw [z])
          refine ev_iinc_4 99 d_hc_close_99 ?_ (hn := by exact Nat.le_of_ble_eq_true rfl)
          refine ev_goto 102 62 d_hc_close_102 ?_
          exact ev_eq (ih j (n + 1) hj ei c1 c3 (by omega) (by omega)) (h1 := by rw [cs_S, if_neg hne, n_i1]) (h3 := by rw [cs_S, if_neg hne])
        · have h1 := hDi (hof B fr0 (17 * j + n + 1)) 1 (hof_lt _ _ _) (by decide) (Option.some.inj c82)
          obtain ⟨kd, hk4, ek⟩ := h23 (17 * j + n + 1) (by omega) (hof1 h1).1
          have ekk : cs_k B j n = kd := by rw [cs_k, ek, nI_clamp (by omega)]
          have hkd : cs_k B j n < 4 := by rw [ekk]; exact hk4
          have ekd : (cs_S S hd B j n).1.1 (203 + 20 * j + n) 1 = .int (nI (cs_k B j n)) := by rw [cs_g S hd B j _ 1 (Or.inr (by decide)) n (Or.inl (by decide)), ((hA j n hj (by omega)).2.2 (hof1 h1).1).2.1, ek, ekk]
          refine ev_aload_0 85 d_hc_close_85 ?_
          refine ev_aload_2 86 d_hc_close_86 ?_
          refine gw_get 87 (200 + 20 * j) 1 d_hc_close_87 lk_hc_212 ok.1 (gk_in j hi6).1 (.ref (am (202 + 20 * j))) ok.2.2.2.2.1 ?_
          refine ev_iload_4 90 d_hc_close_90 ?_
          refine gw_qld (j := n) 92 (202 + 20 * j) d_hc_close_92 ok.2.2.1 (gk_in j hi6).2.2.1 (by rw [ok.2.2.2.2.2.2.1]; omega) (by rw [ok.2.2.2.2.2.2.1]; decide) _ ((ok.2.2.2.2.2.2.2 n (by omega)).2) ?_
          refine gw_callV 93 0 [.ref (am (203 + 20 * j + n))] [] d_hc_close_93 hZ (kc_hc_245 (k9 := 0) (mc9 := 0) (ms9 := 0)) (hr_of (by omega) (by decide) (by decide) (by decide)) (w0.1.2 0 (by decide)) rfl rfl (ht_hc_destroy (203 + 20 * j + n) hd hZ9 w0 (ok.2.2.2.2.2.2.2 n (by omega)).1 ((gk_in j hi6).2.2.2 n (by omega)) (cs_k B j n) hkd ekd (by omega)) (fun r9 w9 hw => ?_)
          obtain ⟨e1, e2⟩ := hw
          subst e1
          subst e2
          refine ev_eq (st' := []) ?_
          refine ev_iinc_3 96 d_hc_close_96 ?_ (hn := by exact Nat.le_of_ble_eq_true rfl)
          refine ev_iinc_4 99 d_hc_close_99 ?_ (hn := by exact Nat.le_of_ble_eq_true rfl)
          refine ev_goto 102 62 d_hc_close_102 ?_
          exact ev_eq (ih j (n + 1) hj ei c1 c3 (by omega) (by omega)) (h1 := by rw [cs_S, if_pos h1, n_i1, n_i1]) (h3 := by rw [cs_S, if_pos h1])
  refine ev_aload_0 0 d_hc_close_0 ?_
  refine ev_iload_1 1 d_hc_close_1 ?_
  refine gw_callV 2 0 [.int i] [] d_hc_close_2 hZ (kc_hc_147 (k9 := 0) (mc9 := 0) (ms9 := 0)) (hr_of (by omega) (by decide) (by decide) (by decide)) (h0.1.2 0 (by decide)) rfl rfl (ht_hc_isInstance i (h0.1.2 0 (by decide)) (nI ni) e5) (fun r9 w9 hw => ?_)
  obtain ⟨x1, y, x2, hy⟩ := hw
  subst x1
  subst x2
  refine ev_eq (st' := [.int y]) ?_
  refine ev_ifne 5 18 d_hc_close_5 (fun c5 => ?_) (fun c5 => ?_)
  · have hin := mo_b1 hy c5
    obtain ⟨j, hj, rfl⟩ := n_ins rfl hn6 hin
    refine ev_aload_0 18 d_hc_close_18 ?_
    refine gw_get 19 0 4 d_hc_close_19 lk_hc_27 (h0.1.2 0 (by decide)) rfl (.ref (am 3)) h0.2.2.2.2.1 ?_
    refine ev_iload_1 22 d_hc_close_22 ?_
    refine gw_qld (j := j) 23 3 d_hc_close_23 (h0.1.2 3 (by decide)) rfl (by rw [h0.2.1.2.2.1]; omega) (by rw [h0.2.1.2.2.1]; decide) _ (hins j hj).2 ?_
    refine ev_astore_2 24 d_hc_close_24 ?_ (hn := by exact Nat.le_of_ble_eq_true rfl)
    refine ev_aload_2 25 d_hc_close_25 ?_
    refine gw_get 26 (200 + 20 * j) 3 d_hc_close_26 lk_hc_182 (hins j hj).1.1 (gk_in j (by omega)).1 (.int (b15 j)) (h15 j hj) ?_
    refine ev_iconst_1 29 d_hc_close_29 ?_
    refine ev_icmpeq 30 41 d_hc_close_30 (fun c30 => ?_) (fun c30 => ?_)
    · refine gw_thrW 41 d_hc_close_41 d_hc_close_44 d_hc_close_45 d_hc_close_48 d_hc_close_51 hl hzx tm_303_97 xw_93_97 (by omega) (by exact Nat.le_of_ble_eq_true rfl) (by exact Nat.le_of_ble_eq_true rfl) (by exact Nat.le_of_ble_eq_true rfl) ?_
      exact ⟨rfl, Or.inr ⟨rfl, j, hj, rfl, Or.inl c30⟩⟩
    · refine ev_aload_2 33 d_hc_close_33 ?_
      refine gw_get 34 (200 + 20 * j) 3 d_hc_close_34 lk_hc_182 (hins j hj).1.1 (gk_in j (by omega)).1 (.int (b15 j)) (h15 j hj) ?_
      refine ev_iconst_3 37 d_hc_close_37 ?_
      refine ev_icmpne 38 52 d_hc_close_38 (fun c38 => ?_) (fun c38 => ?_)
      · refine ev_aload_2 52 d_hc_close_52 ?_
        refine ev_iconst_3 53 d_hc_close_53 ?_
        refine gw_put 54 (200 + 20 * j) 3 d_hc_close_54 lp_hc_182 h0.1.1 (hins j hj).1.1 (gk_in j (by omega)).1 (vp_nar_int _) rfl ?_
        refine ev_iconst_0 57 d_hc_close_57 ?_
        refine ev_istore_3 58 d_hc_close_58 ?_ (hn := by exact Nat.le_of_ble_eq_true rfl)
        refine ev_iconst_0 59 d_hc_close_59 ?_
        refine ev_istore_4 60 d_hc_close_60 ?_ (hn := by exact Nat.le_of_ble_eq_true rfl)
        exact ev_eq (LL 17 j 0 hj rfl c30 c38 (by omega) (by omega))
      · refine gw_thrW 41 d_hc_close_41 d_hc_close_44 d_hc_close_45 d_hc_close_48 d_hc_close_51 hl hzx tm_303_97 xw_93_97 (by omega) (by exact Nat.le_of_ble_eq_true rfl) (by exact Nat.le_of_ble_eq_true rfl) (by exact Nat.le_of_ble_eq_true rfl) ?_
        exact ⟨rfl, Or.inr ⟨rfl, j, hj, rfl, Or.inr c38⟩⟩
  · refine gw_thr 8 d_hc_close_8 d_hc_close_11 d_hc_close_12 d_hc_close_14 d_hc_close_17 hl hzx tm_177_90 xw_86_90 (by omega) (by exact Nat.le_of_ble_eq_true rfl) (by exact Nat.le_of_ble_eq_true rfl) (by exact Nat.le_of_ble_eq_true rfl) ?_
    exact ⟨rfl, Or.inl ⟨rfl, mo_b0 hy c5⟩⟩
