set_option maxHeartbeats 4000000 in
set_option maxRecDepth 100000 in
theorem hx_hc_part {l : Launch} {D : va_G} {tl : List (ClassId × FieldType)} {Z : (Nat → Prop) → State → Heap → Prop} {K : List Nat} {am : Nat → Nat} {ks : Nat → ClassId} {N : Nat → Nat} {S : gS} {k : Nat} (t : Int32) (hl : l.stackTraces = false) (hzx : hc_ZX Z) (hZ : ev_Zok Z) (h0 : hc_w0 K am N S) {B : Nat → Nat → Int32} {NT : Nat} {ct : Nat → Nat} {pt : Nat → Nat → Nat} (hT : TyR K am N S B NT ct pt) (e1 : S.1 0 1 = .int (nI NT)) {nd : Nat} (e3 : S.1 0 3 = .int (nI nd)) (hd6 : nd ≤ 6) (hk5 : 5 < k) : MX (hc_π l D ks tl Z) (m_hc_part k 1 6) 1 6 [.ref (am 0), .int t] (gw K am ks N S) (fun r w => ∃ j, j < NT ∧ t = nI j ∧ nd < 6 ∧ r = some (.int (nI (nd + 1))) ∧ w = gw K am ks N (gsG (gsQ S 2 nd (some (am (100 + 3 * j)))) 0 3 (.int (nI (nd + 1))))) (fun E w => w = gw K am ks N S ∧ ((E = "java/lang/IllegalArgumentException" ∧ ¬ (¬ t < 0 ∧ ¬ nI NT ≤ t)) ∨ (E = "java/lang/IllegalStateException" ∧ (¬ t < 0 ∧ ¬ nI NT ≤ t) ∧ nd = 6))) := by
  refine mx_of pl_hc rfl (Nat.le_of_ble_eq_true rfl) (ev_eq (lv' := [some (.ref (am 0)), some (.int t)]) ?_)
  refine ev_aload_0 0 d_hc_part_0 ?_
  refine ev_iload_1 1 d_hc_part_1 ?_
  refine gw_callV 2 0 [.int t] [] d_hc_part_2 hZ (kc_hc_82 (k9 := 0) (mc9 := 0) (ms9 := 0)) (hr_of (by omega) (by decide) (by decide) (by decide)) (h0.1.2 0 (by decide)) rfl rfl (ht_hc_isType t (h0.1.2 0 (by decide)) (nI NT) e1) (fun r9 w9 hw => ?_)
  obtain ⟨x1, y, x2, hy⟩ := hw
  subst x1
  subst x2
  refine ev_eq (st' := [.int y]) ?_
  refine ev_ifne 5 18 d_hc_part_5 (fun c5 => ?_) (fun c5 => ?_)
  · have hty := mo_b1 hy c5
    obtain ⟨j, hj, rfl⟩ := n_typ rfl hT.1 hty
    refine ev_aload_0 18 d_hc_part_18 ?_
    refine gw_get 19 0 3 d_hc_part_19 lk_hc_22 (h0.1.2 0 (by decide)) rfl (.int (nI nd)) e3 ?_
    refine ev_bipush (6) 22 d_hc_part_22 (by decide) ?_
    refine ev_icmplt 24 37 d_hc_part_24 (fun c24 => ?_) (fun c24 => ?_)
    · have h24 := n_lt nd 6 c24
      refine ev_aload_0 37 d_hc_part_37 ?_
      refine gw_get 38 0 2 d_hc_part_38 lk_hc_19 (h0.1.2 0 (by decide)) rfl (.ref (am 2)) h0.2.2.2.1 ?_
      refine ev_aload_0 41 d_hc_part_41 ?_
      refine gw_get 42 0 3 d_hc_part_42 lk_hc_22 (h0.1.2 0 (by decide)) rfl (.int (nI nd)) e3 ?_
      refine ev_aload_0 45 d_hc_part_45 ?_
      refine gw_get 46 0 0 d_hc_part_46 lk_hc_11 (h0.1.2 0 (by decide)) rfl (.ref (am 1)) h0.2.2.1 ?_
      refine ev_iload_1 49 d_hc_part_49 ?_
      refine gw_qld (j := j) 50 1 d_hc_part_50 (h0.1.2 1 (by decide)) rfl (by rw [h0.2.1.1]; have := hT.1; omega) (by rw [h0.2.1.1]; decide) _ (hT.q hj) ?_
      refine gw_qst (j := nd) (o := 100 + 3 * j) 51 2 d_hc_part_51 h0.1.1 (h0.1.2 2 (by decide)) rfl (by rw [h0.2.1.2.1]; omega) (by rw [h0.2.1.2.1]; decide) (hT.k0 hj) 1 (hT.g0 hj) (by decide) rfl ?_
      refine ev_aload_0 52 d_hc_part_52 ?_
      refine ev_dup_a 53 d_hc_part_53 ?_
      refine gw_get 54 0 3 d_hc_part_54 lk_hc_22 (h0.1.2 0 (by decide)) rfl (.int (nI nd)) e3 ?_
      refine ev_iconst_1 57 d_hc_part_57 ?_
      refine ev_iadd 58 d_hc_part_58 ?_
      refine ev_topi (nI (nd + 1)) (nI_1 nd) ?_
      refine gw_put 59 0 3 d_hc_part_59 lp_hc_22 h0.1.1 (h0.1.2 0 (by decide)) rfl (vp_nar_int _) rfl ?_
      refine ev_aload_0 62 d_hc_part_62 ?_
      refine gw_get 63 0 3 d_hc_part_63 lk_hc_22 (h0.1.2 0 (by decide)) rfl (.int (nI (nd + 1))) (gsG_eq _ _ _ _) ?_
      refine ev_pad 1 6 (by exact Nat.le_of_ble_eq_true rfl) (by exact Nat.le_of_ble_eq_true rfl) ?_
      refine ev_toX ?_
      refine ev_iret 66 d_hc_part_66 rfl ?_
      exact ⟨j, hj, rfl, h24, rfl, rfl⟩
    · have h24 := n_nlt nd 6 c24
      refine gw_thr 27 d_hc_part_27 d_hc_part_30 d_hc_part_31 d_hc_part_33 d_hc_part_36 hl hzx tm_95_97 xw_93_97 (by omega) (by exact Nat.le_of_ble_eq_true rfl) (by exact Nat.le_of_ble_eq_true rfl) (by exact Nat.le_of_ble_eq_true rfl) ?_
      exact ⟨rfl, Or.inr ⟨rfl, hty, by omega⟩⟩
  · refine gw_thr 8 d_hc_part_8 d_hc_part_11 d_hc_part_12 d_hc_part_14 d_hc_part_17 hl hzx tm_88_90 xw_86_90 (by omega) (by exact Nat.le_of_ble_eq_true rfl) (by exact Nat.le_of_ble_eq_true rfl) (by exact Nat.le_of_ble_eq_true rfl) ?_
    exact ⟨rfl, Or.inl ⟨rfl, mo_b0 hy c5⟩⟩

theorem lay_ix {t m : Nat} (h : 5 ≤ m) (ht : t < 32) (hm : m < 1000) : (6 * nI t + nI m - 5).toNatClampNeg = 6 * t + (m - 5) := by
  have e : 6 * nI t + nI m - 5 = nI (6 * t + (m - 5)) := by
    have e1 : 6 * nI t + nI m = nI (6 * t + m) := by rw [← nI_add]; congr 1; exact (Int32.ofNat_mul 6 t).symm
    rw [e1]
    show Int32.ofNat (6 * t + m) - Int32.ofNat 5 = _
    rw [← Int32.ofNat_sub _ _ (by omega), show 6 * t + m - 5 = 6 * t + (m - 5) by omega]
    rfl
  rw [e, nI_clamp (by omega)]
theorem n_s5 {m : Nat} (h : 5 ≤ m) : nI m - 5 = nI (m - 5) := (Int32.ofNat_sub _ _ h).symm

set_option maxHeartbeats 4000000 in
set_option maxRecDepth 100000 in
theorem hx_hc_layout {l : Launch} {D : va_G} {tl : List (ClassId × FieldType)} {Z : (Nat → Prop) → State → Heap → Prop} {K : List Nat} {am : Nat → Nat} {ks : Nat → ClassId} {N : Nat → Nat} {S : gS} {k : Nat} (t : Int32) (w9 : Int32) (hl : l.stackTraces = false) (hzx : hc_ZX Z) (hZ : ev_Zok Z) (h0 : hc_w0 K am N S) {B : Nat → Nat → Int32} {NT : Nat} {ct : Nat → Nat} {pt : Nat → Nat → Nat} (hT : TyR K am N S B NT ct pt) (e1 : S.1 0 1 = .int (nI NT)) (hct : ∀ t, t < NT → B 7 t = nI (ct t) ∧ ct t ≤ 6) (hk5 : 5 < k) : MX (hc_π l D ks tl Z) (m_hc_layout k 1 6) 1 6 [.ref (am 0), .int t, .int w9] (gw K am ks N S) (fun r w => ∃ j, j < NT ∧ t = nI j ∧ ¬ w9 < 0 ∧ w9 < 5 + B 7 j ∧ r = some (.int (if w9 = 0 then B 2 j else if w9 = 1 then B 4 j else if w9 = 2 then B 5 j else if w9 = 3 then B 6 j else if w9 = 4 then B 7 j else B 9 (6 * nI j + w9 - 5).toNatClampNeg)) ∧ w = gw K am ks N S) (fun E w => w = gw K am ks N S ∧ ((E = "java/lang/IllegalArgumentException" ∧ ¬ (¬ t < 0 ∧ ¬ nI NT ≤ t)) ∨ (E = "java/lang/IndexOutOfBoundsException" ∧ ∃ j, j < NT ∧ t = nI j ∧ (w9 < 0 ∨ ¬ w9 < 5 + B 7 j)))) := by
  refine mx_of pl_hc rfl (Nat.le_of_ble_eq_true rfl) (ev_eq (lv' := [some (.ref (am 0)), some (.int t), some (.int w9), none]) ?_)
  refine ev_aload_0 0 d_hc_layout_0 ?_
  refine ev_iload_1 1 d_hc_layout_1 ?_
  refine gw_callV 2 0 [.int t] [] d_hc_layout_2 hZ (kc_hc_82 (k9 := 0) (mc9 := 0) (ms9 := 0)) (hr_of (by omega) (by decide) (by decide) (by decide)) (h0.1.2 0 (by decide)) rfl rfl (ht_hc_isType t (h0.1.2 0 (by decide)) (nI NT) e1) (fun r9 w9 hw => ?_)
  obtain ⟨x1, y, x2, hy⟩ := hw
  subst x1
  subst x2
  refine ev_eq (st' := [.int y]) ?_
  refine ev_ifne 5 18 d_hc_layout_5 (fun c5 => ?_) (fun c5 => ?_)
  · have hty := mo_b1 hy c5
    obtain ⟨j, hj, rfl⟩ := n_typ rfl hT.1 hty
    refine ev_aload_0 18 d_hc_layout_18 ?_
    refine gw_get 19 0 0 d_hc_layout_19 lk_hc_11 (h0.1.2 0 (by decide)) rfl (.ref (am 1)) h0.2.2.1 ?_
    refine ev_iload_1 22 d_hc_layout_22 ?_
    refine gw_qld (j := j) 23 1 d_hc_layout_23 (h0.1.2 1 (by decide)) rfl (by rw [h0.2.1.1]; have := hT.1; omega) (by rw [h0.2.1.1]; decide) _ (hT.q hj) ?_
    refine ev_astore_3 24 d_hc_layout_24 ?_ (hn := by exact Nat.le_of_ble_eq_true rfl)
    refine ev_iload_2 25 d_hc_layout_25 ?_
    refine ev_iflt 26 39 d_hc_layout_26 (fun c26 => ?_) (fun c26 => ?_)
    · refine gw_thr 39 d_hc_layout_39 d_hc_layout_42 d_hc_layout_43 d_hc_layout_45 d_hc_layout_48 hl hzx tm_128_130 xw_126_130 (by omega) (by exact Nat.le_of_ble_eq_true rfl) (by exact Nat.le_of_ble_eq_true rfl) (by exact Nat.le_of_ble_eq_true rfl) ?_
      exact ⟨rfl, Or.inr ⟨rfl, j, hj, rfl, Or.inl c26⟩⟩
    · refine ev_iload_2 29 d_hc_layout_29 ?_
      refine ev_iconst_5 30 d_hc_layout_30 ?_
      refine ev_aload_3 31 d_hc_layout_31 ?_
      refine gw_get 32 (100 + 3 * j) 2 d_hc_layout_32 lk_hc_123 (hT.k0 hj) (hT.g0 hj) (.int (B 7 j)) (hT.f2 hj) ?_
      refine ev_iadd 35 d_hc_layout_35 ?_
      refine ev_icmplt 36 49 d_hc_layout_36 (fun c36 => ?_) (fun c36 => ?_)
      · refine ev_iload_2 49 d_hc_layout_49 ?_
        rcases sw_tab (w9) 0 5 (by decide) with ⟨j50, hj50, e50⟩ | e50
        · obtain h50 | h50 | h50 | h50 | h50 : j50 = 0 ∨ j50 = 1 ∨ j50 = 2 ∨ j50 = 3 ∨ j50 = 4 := by omega
          · subst h50
            replace e50 : w9 = 0 := e50
            refine ev_topi 0 e50 ?_
            refine ev_tabIn 50 84 d_hc_layout_50 (by decide) (by decide) rfl ?_
            refine ev_aload_3 84 d_hc_layout_84 ?_
            refine gw_get 85 (100 + 3 * j) 0 d_hc_layout_85 lk_hc_131 (hT.k0 hj) (hT.g0 hj) (.int (B 2 j)) (hT.f0 hj) ?_
            refine ev_pad 1 6 (by exact Nat.le_of_ble_eq_true rfl) (by exact Nat.le_of_ble_eq_true rfl) ?_
            refine ev_toX ?_
            refine ev_iret 88 d_hc_layout_88 rfl ?_
            exact ⟨j, hj, rfl, c26, c36, by rw [e50]; rfl, rfl⟩
          · subst h50
            replace e50 : w9 = 1 := e50
            refine ev_topi 1 e50 ?_
            refine ev_tabIn 50 89 d_hc_layout_50 (by decide) (by decide) rfl ?_
            refine ev_aload_3 89 d_hc_layout_89 ?_
            refine gw_get 90 (100 + 3 * j) 8 d_hc_layout_90 lk_hc_116 (hT.k0 hj) (hT.g0 hj) (.int (B 4 j)) (hT.f8 hj) ?_
            refine ev_pad 1 6 (by exact Nat.le_of_ble_eq_true rfl) (by exact Nat.le_of_ble_eq_true rfl) ?_
            refine ev_toX ?_
            refine ev_iret 93 d_hc_layout_93 rfl ?_
            exact ⟨j, hj, rfl, c26, c36, by rw [e50]; rfl, rfl⟩
          · subst h50
            replace e50 : w9 = 2 := e50
            refine ev_topi 2 e50 ?_
            refine ev_tabIn 50 94 d_hc_layout_50 (by decide) (by decide) rfl ?_
            refine ev_aload_3 94 d_hc_layout_94 ?_
            refine gw_get 95 (100 + 3 * j) 7 d_hc_layout_95 lk_hc_134 (hT.k0 hj) (hT.g0 hj) (.int (B 5 j)) (hT.f7 hj) ?_
            refine ev_pad 1 6 (by exact Nat.le_of_ble_eq_true rfl) (by exact Nat.le_of_ble_eq_true rfl) ?_
            refine ev_toX ?_
            refine ev_iret 98 d_hc_layout_98 rfl ?_
            exact ⟨j, hj, rfl, c26, c36, by rw [e50]; rfl, rfl⟩
          · subst h50
            replace e50 : w9 = 3 := e50
            refine ev_topi 3 e50 ?_
            refine ev_tabIn 50 99 d_hc_layout_50 (by decide) (by decide) rfl ?_
            refine ev_aload_3 99 d_hc_layout_99 ?_
            refine gw_get 100 (100 + 3 * j) 5 d_hc_layout_100 lk_hc_113 (hT.k0 hj) (hT.g0 hj) (.int (B 6 j)) (hT.f5 hj) ?_
            refine ev_pad 1 6 (by exact Nat.le_of_ble_eq_true rfl) (by exact Nat.le_of_ble_eq_true rfl) ?_
            refine ev_toX ?_
            refine ev_iret 103 d_hc_layout_103 rfl ?_
            exact ⟨j, hj, rfl, c26, c36, by rw [e50]; rfl, rfl⟩
          · subst h50
            replace e50 : w9 = 4 := e50
            refine ev_topi 4 e50 ?_
            refine ev_tabIn 50 104 d_hc_layout_50 (by decide) (by decide) rfl ?_
            refine ev_aload_3 104 d_hc_layout_104 ?_
            refine gw_get 105 (100 + 3 * j) 2 d_hc_layout_105 lk_hc_123 (hT.k0 hj) (hT.g0 hj) (.int (B 7 j)) (hT.f2 hj) ?_
            refine ev_pad 1 6 (by exact Nat.le_of_ble_eq_true rfl) (by exact Nat.le_of_ble_eq_true rfl) ?_
            refine ev_toX ?_
            refine ev_iret 108 d_hc_layout_108 rfl ?_
            exact ⟨j, hj, rfl, c26, c36, by rw [e50]; rfl, rfl⟩
        · refine ev_tabOut 50 109 d_hc_layout_50 e50 ?_
          obtain ⟨m, hm, rfl⟩ := nI_of c26
          have hm5 : 5 ≤ m := by rw [nI_toInt hm] at e50; omega
          obtain ⟨z7, z6⟩ := hct j hj
          have hmc : m < 5 + ct j := by rw [z7, show (5 : Int32) = nI 5 from rfl, nI_add] at c36; exact n_lt m (5 + ct j) c36
          refine ev_aload_3 109 d_hc_layout_109 ?_
          refine gw_get 110 (100 + 3 * j) 4 d_hc_layout_110 lk_hc_137 (hT.k0 hj) (hT.g0 hj) (.ref (am (102 + 3 * j))) (hT.f4 hj) ?_
          refine ev_iload_2 113 d_hc_layout_113 ?_
          refine ev_iconst_5 114 d_hc_layout_114 ?_
          refine ev_isub 115 d_hc_layout_115 ?_
          refine ev_topi (nI (m - 5)) (n_s5 hm5) ?_
          refine gw_ild (j := m - 5) 116 (102 + 3 * j) d_hc_layout_116 (hT.k2 hj) (hT.g2 hj) (by rw [hT.n2 hj]; omega) (by rw [hT.n2 hj]; omega) _ (hT.oq hj (by omega)) ?_
          refine ev_pad 1 6 (by exact Nat.le_of_ble_eq_true rfl) (by exact Nat.le_of_ble_eq_true rfl) ?_
          refine ev_toX ?_
          refine ev_iret 117 d_hc_layout_117 rfl ?_
          exact ⟨j, hj, rfl, c26, c36, by rw [if_neg (show ¬ nI m = 0 from sw_ne (k := 0) e50 (by decide) (by decide) (by decide)), if_neg (show ¬ nI m = 1 from sw_ne (k := 1) e50 (by decide) (by decide) (by decide)), if_neg (show ¬ nI m = 2 from sw_ne (k := 2) e50 (by decide) (by decide) (by decide)), if_neg (show ¬ nI m = 3 from sw_ne (k := 3) e50 (by decide) (by decide) (by decide)), if_neg (show ¬ nI m = 4 from sw_ne (k := 4) e50 (by decide) (by decide) (by decide)), lay_ix hm5 (by have := hT.1; omega) (by omega)], rfl⟩
      · refine gw_thr 39 d_hc_layout_39 d_hc_layout_42 d_hc_layout_43 d_hc_layout_45 d_hc_layout_48 hl hzx tm_128_130 xw_126_130 (by omega) (by exact Nat.le_of_ble_eq_true rfl) (by exact Nat.le_of_ble_eq_true rfl) (by exact Nat.le_of_ble_eq_true rfl) ?_
        exact ⟨rfl, Or.inr ⟨rfl, j, hj, rfl, Or.inr c36⟩⟩
  · refine gw_thr 8 d_hc_layout_8 d_hc_layout_11 d_hc_layout_12 d_hc_layout_14 d_hc_layout_17 hl hzx tm_88_90 xw_86_90 (by omega) (by exact Nat.le_of_ble_eq_true rfl) (by exact Nat.le_of_ble_eq_true rfl) (by exact Nat.le_of_ble_eq_true rfl) ?_
    exact ⟨rfl, Or.inl ⟨rfl, mo_b0 hy c5⟩⟩

set_option maxHeartbeats 4000000 in
set_option maxRecDepth 100000 in
theorem hx_hc_read {l : Launch} {D : va_G} {tl : List (ClassId × FieldType)} {Z : (Nat → Prop) → State → Heap → Prop} {K : List Nat} {am : Nat → Nat} {ks : Nat → ClassId} {N : Nat → Nat} {S : gS} {k : Nat} (i : Int32) (p : Int32) (hl : l.stackTraces = false) (hzx : hc_ZX Z) (hZ : ev_Zok Z) (h0 : hc_w0 K am N S) {ni : Nat} (hn6 : ni ≤ 6) (e5 : S.1 0 5 = .int (nI ni)) (hins : ∀ i, i < ni → in_ok K am N S i ∧ S.2.2.1 3 i = some (am (200 + 20 * i))) {B : Nat → Nat → Int32} (hMe : ∀ i, i < ni → me_R S B i) (hk5 : 5 < k) : MX (hc_π l D ks tl Z) (m_hc_read k 1 6) 1 6 [.ref (am 0), .int i, .int p] (gw K am ks N S) (fun r w => ∃ j a, j < ni ∧ i = nI j ∧ a < 256 ∧ p = nI a ∧ r = some (.int (B 13 (256 * j + a))) ∧ w = gw K am ks N S) (fun E w => w = gw K am ks N S ∧ ((E = "java/lang/IllegalArgumentException" ∧ ¬ (¬ i < 0 ∧ ¬ nI ni ≤ i)) ∨ (E = "java/lang/IndexOutOfBoundsException" ∧ (¬ i < 0 ∧ ¬ nI ni ≤ i) ∧ (p < 0 ∨ 255 < p)))) := by
  refine mx_of pl_hc rfl (Nat.le_of_ble_eq_true rfl) (ev_eq (lv' := [some (.ref (am 0)), some (.int i), some (.int p)]) ?_)
  refine ev_aload_0 0 d_hc_read_0 ?_
  refine ev_iload_1 1 d_hc_read_1 ?_
  refine gw_callV 2 0 [.int i] [] d_hc_read_2 hZ (kc_hc_147 (k9 := 0) (mc9 := 0) (ms9 := 0)) (hr_of (by omega) (by decide) (by decide) (by decide)) (h0.1.2 0 (by decide)) rfl rfl (ht_hc_isInstance i (h0.1.2 0 (by decide)) (nI ni) e5) (fun r9 w9 hw => ?_)
  obtain ⟨x1, y, x2, hy⟩ := hw
  subst x1
  subst x2
  refine ev_eq (st' := [.int y]) ?_
  refine ev_ifne 5 18 d_hc_read_5 (fun c5 => ?_) (fun c5 => ?_)
  · have hin := mo_b1 hy c5
    obtain ⟨j, hj, rfl⟩ := n_ins rfl hn6 hin
    refine ev_iload_2 18 d_hc_read_18 ?_
    refine ev_callS 19 [.int p] [] d_hc_read_19 hZ (kc_hc_168 (k9 := 0) (mc9 := 0) (ms9 := 0)) (hr_of (by omega) (by decide) (by decide) (by decide)) (ht_hc_isPlace p) (fun r9 w9 hw => ?_)
    obtain ⟨x1, z, x2, hz⟩ := hw
    subst x1
    subst x2
    refine ev_eq (st' := [.int z]) ?_
    refine ev_ifne 22 35 d_hc_read_22 (fun c22 => ?_) (fun c22 => ?_)
    · obtain ⟨a, ha, rfl⟩ := n_pl1 (mo_b1 hz c22)
      refine ev_aload_0 35 d_hc_read_35 ?_
      refine gw_get 36 0 4 d_hc_read_36 lk_hc_27 (h0.1.2 0 (by decide)) rfl (.ref (am 3)) h0.2.2.2.2.1 ?_
      refine ev_iload_1 39 d_hc_read_39 ?_
      refine gw_qld (j := j) 40 3 d_hc_read_40 (h0.1.2 3 (by decide)) rfl (by rw [h0.2.1.2.2.1]; omega) (by rw [h0.2.1.2.2.1]; decide) _ (hins j hj).2 ?_
      refine gw_get 41 (200 + 20 * j) 0 d_hc_read_41 lk_hc_179 (hins j hj).1.1 (gk_in j (by omega)).1 (.ref (am (201 + 20 * j))) (hins j hj).1.2.2.2.1 ?_
      refine ev_iload_2 44 d_hc_read_44 ?_
      refine gw_ild (j := a) 45 (201 + 20 * j) d_hc_read_45 (hins j hj).1.2.1 (gk_in j (by omega)).2.1 (by rw [(hins j hj).1.2.2.2.2.2.1]; exact ha) (by rw [(hins j hj).1.2.2.2.2.2.1]; decide) _ (hMe j hj a ha) ?_
      refine ev_pad 1 6 (by exact Nat.le_of_ble_eq_true rfl) (by exact Nat.le_of_ble_eq_true rfl) ?_
      refine ev_toX ?_
      refine ev_iret 46 d_hc_read_46 rfl ?_
      exact ⟨j, a, hj, rfl, ha, rfl, rfl, rfl⟩
    · refine gw_thr 25 d_hc_read_25 d_hc_read_28 d_hc_read_29 d_hc_read_31 d_hc_read_34 hl hzx tm_171_130 xw_126_130 (by omega) (by exact Nat.le_of_ble_eq_true rfl) (by exact Nat.le_of_ble_eq_true rfl) (by exact Nat.le_of_ble_eq_true rfl) ?_
      exact ⟨rfl, Or.inr ⟨rfl, hin, n_pl0 (mo_b0 hz c22)⟩⟩
  · refine gw_thr 8 d_hc_read_8 d_hc_read_11 d_hc_read_12 d_hc_read_14 d_hc_read_17 hl hzx tm_177_90 xw_86_90 (by omega) (by exact Nat.le_of_ble_eq_true rfl) (by exact Nat.le_of_ble_eq_true rfl) (by exact Nat.le_of_ble_eq_true rfl) ?_
    exact ⟨rfl, Or.inl ⟨rfl, mo_b0 hy c5⟩⟩

set_option maxHeartbeats 4000000 in
set_option maxRecDepth 100000 in
theorem hx_hc_write {l : Launch} {D : va_G} {tl : List (ClassId × FieldType)} {Z : (Nat → Prop) → State → Heap → Prop} {K : List Nat} {am : Nat → Nat} {ks : Nat → ClassId} {N : Nat → Nat} {S : gS} {k : Nat} (i : Int32) (p : Int32) (n : Int32) (w9 : Int64) (hl : l.stackTraces = false) (hzx : hc_ZX Z) (hZ : ev_Zok Z) (hNw : hc_ZN Z) (h0 : hc_w0 K am N S) {ni : Nat} (hn6 : ni ≤ 6) (e5 : S.1 0 5 = .int (nI ni)) (hins : ∀ i, i < ni → in_ok K am N S i ∧ S.2.2.1 3 i = some (am (200 + 20 * i))) (hk5 : 5 < k) : MX (hc_π l D ks tl Z) (m_hc_write k 1 6) 1 6 [.ref (am 0), .int i, .int p, .int n, .long w9] (gw K am ks N S) (fun r w => ∃ j a nn, j < ni ∧ i = nI j ∧ a < 256 ∧ p = nI a ∧ 1 ≤ nn ∧ nn ≤ 8 ∧ n = nI nn ∧ r = none ∧ w = gw K am ks N (hb_sb S (201 + 20 * j) a w9 (min nn (256 - a)))) (fun E w => w = gw K am ks N S ∧ ((E = "java/lang/IllegalArgumentException" ∧ (¬ (¬ i < 0 ∧ ¬ nI ni ≤ i) ∨ n < 1 ∨ 8 < n)) ∨ (E = "java/lang/IndexOutOfBoundsException" ∧ (¬ i < 0 ∧ ¬ nI ni ≤ i) ∧ ¬ n < 1 ∧ ¬ 8 < n ∧ (p < 0 ∨ 255 < p)))) := by
  refine mx_of pl_hc rfl (Nat.le_of_ble_eq_true rfl) (ev_eq (lv' := [some (.ref (am 0)), some (.int i), some (.int p), some (.int n), some (.long w9), none]) ?_)
  refine ev_aload_0 0 d_hc_write_0 ?_
  refine ev_iload_1 1 d_hc_write_1 ?_
  refine gw_callV 2 0 [.int i] [] d_hc_write_2 hZ (kc_hc_147 (k9 := 0) (mc9 := 0) (ms9 := 0)) (hr_of (by omega) (by decide) (by decide) (by decide)) (h0.1.2 0 (by decide)) rfl rfl (ht_hc_isInstance i (h0.1.2 0 (by decide)) (nI ni) e5) (fun r9 w9 hw => ?_)
  obtain ⟨x1, y, x2, hy⟩ := hw
  subst x1
  subst x2
  refine ev_eq (st' := [.int y]) ?_
  refine ev_ifeq 5 19 d_hc_write_5 (fun c5 => ?_) (fun c5 => ?_)
  · refine gw_thr 19 d_hc_write_19 d_hc_write_22 d_hc_write_23 d_hc_write_25 d_hc_write_28 hl hzx tm_166_90 xw_86_90 (by omega) (by exact Nat.le_of_ble_eq_true rfl) (by exact Nat.le_of_ble_eq_true rfl) (by exact Nat.le_of_ble_eq_true rfl) ?_
    exact ⟨rfl, Or.inl ⟨rfl, Or.inl (mo_b0 hy c5)⟩⟩
  · have hin := mo_b1 hy c5
    obtain ⟨j, hj, rfl⟩ := n_ins rfl hn6 hin
    refine ev_iload_3 8 d_hc_write_8 ?_
    refine ev_iconst_1 9 d_hc_write_9 ?_
    refine ev_icmplt 10 19 d_hc_write_10 (fun c10 => ?_) (fun c10 => ?_)
    · refine gw_thr 19 d_hc_write_19 d_hc_write_22 d_hc_write_23 d_hc_write_25 d_hc_write_28 hl hzx tm_166_90 xw_86_90 (by omega) (by exact Nat.le_of_ble_eq_true rfl) (by exact Nat.le_of_ble_eq_true rfl) (by exact Nat.le_of_ble_eq_true rfl) ?_
      exact ⟨rfl, Or.inl ⟨rfl, Or.inr (Or.inl c10)⟩⟩
    · refine ev_iload_3 13 d_hc_write_13 ?_
      refine ev_bipush (8) 14 d_hc_write_14 (by decide) ?_
      refine ev_icmple 16 29 d_hc_write_16 (fun c16 => ?_) (fun c16 => ?_)
      · obtain ⟨nn, hn1, hn8, rfl⟩ := n_r8 c10 c16
        refine ev_iload_2 29 d_hc_write_29 ?_
        refine ev_callS 30 [.int p] [] d_hc_write_30 hZ (kc_hc_168 (k9 := 0) (mc9 := 0) (ms9 := 0)) (hr_of (by omega) (by decide) (by decide) (by decide)) (ht_hc_isPlace p) (fun r9 w9 hw => ?_)
        obtain ⟨x1, z, x2, hz⟩ := hw
        subst x1
        subst x2
        refine ev_eq (st' := [.int z]) ?_
        refine ev_ifne 33 46 d_hc_write_33 (fun c33 => ?_) (fun c33 => ?_)
        · obtain ⟨a, ha, rfl⟩ := n_pl1 (mo_b1 hz c33)
          refine ev_aload_0 46 d_hc_write_46 ?_
          refine gw_get 47 0 4 d_hc_write_47 lk_hc_27 (h0.1.2 0 (by decide)) rfl (.ref (am 3)) h0.2.2.2.2.1 ?_
          refine ev_iload_1 50 d_hc_write_50 ?_
          refine gw_qld (j := j) 51 3 d_hc_write_51 (h0.1.2 3 (by decide)) rfl (by rw [h0.2.1.2.2.1]; omega) (by rw [h0.2.1.2.2.1]; decide) _ (hins j hj).2 ?_
          refine ev_iload_2 52 d_hc_write_52 ?_
          refine ev_iload_3 53 d_hc_write_53 ?_
          refine ev_lload_4 54 d_hc_write_54 ?_
          refine gw_callV 56 (200 + 20 * j) [.int (nI a), .int (nI nn), .long w9] [] d_hc_write_56 hZ (kc_hc_173 (k9 := 1) (mc9 := 0) (ms9 := 0)) (hr_of (by omega) (by decide) (by decide) (by decide)) (hins j hj).1.1 (gk_in j (by omega)).1 rfl (ht_in_storeBytes j a nn w9 hZ hNw h0.1.1 (by omega) (hins j hj).1 (by omega) (by omega) (by decide)) (fun r9 w9 hw => ?_)
          obtain ⟨x1, x2⟩ := hw
          subst x1
          subst x2
          refine ev_eq (st' := []) ?_
          refine ev_pad 1 6 (by exact Nat.le_of_ble_eq_true rfl) (by exact Nat.le_of_ble_eq_true rfl) ?_
          refine ev_toX ?_
          refine ev_vret 59 d_hc_write_59 rfl ?_
          exact ⟨j, a, nn, hj, rfl, ha, rfl, hn1, hn8, rfl, rfl, rfl⟩
        · refine gw_thr 36 d_hc_write_36 d_hc_write_39 d_hc_write_40 d_hc_write_42 d_hc_write_45 hl hzx tm_171_130 xw_126_130 (by omega) (by exact Nat.le_of_ble_eq_true rfl) (by exact Nat.le_of_ble_eq_true rfl) (by exact Nat.le_of_ble_eq_true rfl) ?_
          exact ⟨rfl, Or.inr ⟨rfl, hin, c10, Int32.not_lt.mpr c16, n_pl0 (mo_b0 hz c33)⟩⟩
      · refine gw_thr 19 d_hc_write_19 d_hc_write_22 d_hc_write_23 d_hc_write_25 d_hc_write_28 hl hzx tm_166_90 xw_86_90 (by omega) (by exact Nat.le_of_ble_eq_true rfl) (by exact Nat.le_of_ble_eq_true rfl) (by exact Nat.le_of_ble_eq_true rfl) ?_
        exact ⟨rfl, Or.inl ⟨rfl, Or.inr (Or.inr (Int32.not_le.mp c16))⟩⟩

set_option maxHeartbeats 4000000 in
set_option maxRecDepth 100000 in
theorem hx_hc_enter {l : Launch} {D : va_G} {tl : List (ClassId × FieldType)} {Z : (Nat → Prop) → State → Heap → Prop} {K : List Nat} {am : Nat → Nat} {ks : Nat → ClassId} {N : Nat → Nat} {S : gS} {k : Nat} (i : Int32) (hl : l.stackTraces = false) (hzx : hc_ZX Z) (hZ : ev_Zok Z) (h0 : hc_w0 K am N S) {ni : Nat} (hn6 : ni ≤ 6) (e5 : S.1 0 5 = .int (nI ni)) (hins : ∀ i, i < ni → in_ok K am N S i ∧ S.2.2.1 3 i = some (am (200 + 20 * i))) {Lv : Nat} (hL : S.1 0 11 = .int (nI Lv)) (hL6 : Lv ≤ 6) {b15 : Nat → Int32} (h15 : ∀ i, i < ni → S.1 (200 + 20 * i) 3 = .int (b15 i)) (hk5 : 5 < k) : MX (hc_π l D ks tl Z) (m_hc_enter k 1 6) 1 6 [.ref (am 0), .int i] (gw K am ks N S) (fun r w => ∃ j, j < ni ∧ i = nI j ∧ Lv = 0 ∧ b15 j = 0 ∧ r = none ∧ w = gw K am ks N (hs_pu S Lv j (-1) (-1))) (fun E w => w = gw K am ks N S ∧ ((E = "java/lang/IllegalArgumentException" ∧ ¬ (¬ i < 0 ∧ ¬ nI ni ≤ i)) ∨ (E = "java/lang/IllegalStateException" ∧ ∃ j, j < ni ∧ i = nI j ∧ (0 < Lv ∨ ¬ b15 j = 0)))) := by
  refine mx_of pl_hc rfl (Nat.le_of_ble_eq_true rfl) (ev_eq (lv' := [some (.ref (am 0)), some (.int i)]) ?_)
  refine ev_aload_0 0 d_hc_enter_0 ?_
  refine ev_iload_1 1 d_hc_enter_1 ?_
  refine gw_callV 2 0 [.int i] [] d_hc_enter_2 hZ (kc_hc_147 (k9 := 0) (mc9 := 0) (ms9 := 0)) (hr_of (by omega) (by decide) (by decide) (by decide)) (h0.1.2 0 (by decide)) rfl rfl (ht_hc_isInstance i (h0.1.2 0 (by decide)) (nI ni) e5) (fun r9 w9 hw => ?_)
  obtain ⟨x1, y, x2, hy⟩ := hw
  subst x1
  subst x2
  refine ev_eq (st' := [.int y]) ?_
  refine ev_ifne 5 18 d_hc_enter_5 (fun c5 => ?_) (fun c5 => ?_)
  · have hin := mo_b1 hy c5
    obtain ⟨j, hj, rfl⟩ := n_ins rfl hn6 hin
    refine ev_aload_0 18 d_hc_enter_18 ?_
    refine gw_get 19 0 11 d_hc_enter_19 lk_hc_53 (h0.1.2 0 (by decide)) rfl (.int (nI Lv)) hL ?_
    refine ev_ifne 22 37 d_hc_enter_22 (fun c22 => ?_) (fun c22 => ?_)
    · have hLp : 0 < Lv := Nat.pos_of_ne_zero (fun z => c22 (by rw [z]; rfl))
      refine gw_thr 37 d_hc_enter_37 d_hc_enter_40 d_hc_enter_41 d_hc_enter_43 d_hc_enter_46 hl hzx tm_185_97 xw_93_97 (by omega) (by exact Nat.le_of_ble_eq_true rfl) (by exact Nat.le_of_ble_eq_true rfl) (by exact Nat.le_of_ble_eq_true rfl) ?_
      exact ⟨rfl, Or.inr ⟨rfl, j, hj, rfl, Or.inl hLp⟩⟩
    · have hL0 : Lv = 0 := (n_z (by omega)).mp c22
      refine ev_aload_0 25 d_hc_enter_25 ?_
      refine gw_get 26 0 4 d_hc_enter_26 lk_hc_27 (h0.1.2 0 (by decide)) rfl (.ref (am 3)) h0.2.2.2.2.1 ?_
      refine ev_iload_1 29 d_hc_enter_29 ?_
      refine gw_qld (j := j) 30 3 d_hc_enter_30 (h0.1.2 3 (by decide)) rfl (by rw [h0.2.1.2.2.1]; omega) (by rw [h0.2.1.2.2.1]; decide) _ (hins j hj).2 ?_
      refine gw_get 31 (200 + 20 * j) 3 d_hc_enter_31 lk_hc_182 (hins j hj).1.1 (gk_in j (by omega)).1 (.int (b15 j)) (h15 j hj) ?_
      refine ev_ifeq 34 47 d_hc_enter_34 (fun c34 => ?_) (fun c34 => ?_)
      · refine ev_aload_0 47 d_hc_enter_47 ?_
        refine ev_iload_1 48 d_hc_enter_48 ?_
        refine ev_iconst_m1 49 d_hc_enter_49 ?_
        refine ev_iconst_m1 50 d_hc_enter_50 ?_
        refine gw_callV 51 0 [.int (nI j), .int (-1), .int (-1)] [] d_hc_enter_51 hZ (kc_hc_187 (k9 := 0) (mc9 := 0) (ms9 := 0)) (hr_of (by omega) (by decide) (by decide) (by decide)) (h0.1.2 0 (by decide)) rfl rfl (ht_hc_push j (-1) (-1) h0 Lv hL (by omega) (by omega) (hins j hj).2 (hins j hj).1.1) (fun r9 w9 hw => ?_)
        obtain ⟨x1, x2⟩ := hw
        subst x1
        subst x2
        refine ev_eq (st' := []) ?_
        refine ev_pad 1 6 (by exact Nat.le_of_ble_eq_true rfl) (by exact Nat.le_of_ble_eq_true rfl) ?_
        refine ev_toX ?_
        refine ev_vret 54 d_hc_enter_54 rfl ?_
        exact ⟨j, hj, rfl, hL0, c34, rfl, rfl⟩
      · refine gw_thr 37 d_hc_enter_37 d_hc_enter_40 d_hc_enter_41 d_hc_enter_43 d_hc_enter_46 hl hzx tm_185_97 xw_93_97 (by omega) (by exact Nat.le_of_ble_eq_true rfl) (by exact Nat.le_of_ble_eq_true rfl) (by exact Nat.le_of_ble_eq_true rfl) ?_
        exact ⟨rfl, Or.inr ⟨rfl, j, hj, rfl, Or.inr c34⟩⟩
  · refine gw_thr 8 d_hc_enter_8 d_hc_enter_11 d_hc_enter_12 d_hc_enter_14 d_hc_enter_17 hl hzx tm_177_90 xw_86_90 (by omega) (by exact Nat.le_of_ble_eq_true rfl) (by exact Nat.le_of_ble_eq_true rfl) (by exact Nat.le_of_ble_eq_true rfl) ?_
    exact ⟨rfl, Or.inl ⟨rfl, mo_b0 hy c5⟩⟩

set_option maxHeartbeats 4000000 in
set_option maxRecDepth 100000 in
theorem hx_hc_leave {l : Launch} {D : va_G} {tl : List (ClassId × FieldType)} {Z : (Nat → Prop) → State → Heap → Prop} {K : List Nat} {am : Nat → Nat} {ks : Nat → ClassId} {N : Nat → Nat} {S : gS} {k : Nat}  (hl : l.stackTraces = false) (hzx : hc_ZX Z) (hZ : ev_Zok Z) (h0 : hc_w0 K am N S) {ni : Nat} (hn6 : ni ≤ 6) (e5 : S.1 0 5 = .int (nI ni)) (hins : ∀ i, i < ni → in_ok K am N S i ∧ S.2.2.1 3 i = some (am (200 + 20 * i))) {Lv : Nat} (hL : S.1 0 11 = .int (nI Lv)) (hL6 : Lv ≤ 6) {ru : Nat → Nat} (hru : ∀ k, k < Lv → S.2.1 5 k = nI (ru k) ∧ ru k < ni) (hk5 : 6 < k) : MX (hc_π l D ks tl Z) (m_hc_leave k 1 6) 1 6 [.ref (am 0)] (gw K am ks N S) (fun r w => Lv = 1 ∧ r = none ∧ w = gw K am ks N (hs_po S Lv (ru (Lv - 1)))) (fun E w => w = gw K am ks N S ∧ E = "java/lang/IllegalStateException" ∧ ¬ Lv = 1) := by
  refine mx_of pl_hc rfl (Nat.le_of_ble_eq_true rfl) (ev_eq (lv' := [some (.ref (am 0))]) ?_)
  refine ev_aload_0 0 d_hc_leave_0 ?_
  refine gw_get 1 0 11 d_hc_leave_1 lk_hc_53 (h0.1.2 0 (by decide)) rfl (.int (nI Lv)) hL ?_
  refine ev_iconst_1 4 d_hc_leave_4 ?_
  refine ev_icmpeq 5 18 d_hc_leave_5 (fun c5 => ?_) (fun c5 => ?_)
  · have hL1 : Lv = 1 := n_eq Lv 1 c5
    refine ev_aload_0 18 d_hc_leave_18 ?_
    refine gw_callV 19 0 [] [] d_hc_leave_19 hZ (kc_hc_193 (k9 := 6) (mc9 := 0) (ms9 := 0)) (hr_of (by omega) (by decide) (by decide) (by decide)) (h0.1.2 0 (by decide)) rfl rfl (ht_hc_pop hZ h0 Lv hL hL6 (by omega) (ru (Lv - 1)) (by have := (hru (Lv - 1) (by omega)).2; omega) (hru (Lv - 1) (by omega)).1 (hins _ (hru (Lv - 1) (by omega)).2).2 (hins _ (hru (Lv - 1) (by omega)).2).1.1 (by decide)) (fun r9 w9 hw => ?_)
    obtain ⟨x1, x2⟩ := hw
    subst x1
    subst x2
    refine ev_eq (st' := []) ?_
    refine ev_pad 1 6 (by exact Nat.le_of_ble_eq_true rfl) (by exact Nat.le_of_ble_eq_true rfl) ?_
    refine ev_toX ?_
    refine ev_vret 22 d_hc_leave_22 rfl ?_
    exact ⟨hL1, rfl, rfl⟩
  · have hL1 : ¬ Lv = 1 := fun z => c5 (by rw [z]; rfl)
    refine gw_thr 8 d_hc_leave_8 d_hc_leave_11 d_hc_leave_12 d_hc_leave_14 d_hc_leave_17 hl hzx tm_191_97 xw_93_97 (by omega) (by exact Nat.le_of_ble_eq_true rfl) (by exact Nat.le_of_ble_eq_true rfl) (by exact Nat.le_of_ble_eq_true rfl) ?_
    exact ⟨rfl, rfl, hL1⟩

set_option maxHeartbeats 4000000 in
set_option maxRecDepth 100000 in
theorem hx_hc_resources {l : Launch} {D : va_G} {tl : List (ClassId × FieldType)} {Z : (Nat → Prop) → State → Heap → Prop} {K : List Nat} {am : Nat → Nat} {ks : Nat → ClassId} {N : Nat → Nat} {S : gS} {k : Nat} (x : Int32) (gn : Int32) (hl : l.stackTraces = false) (hzx : hc_ZX Z) (hZ : ev_Zok Z) (h0 : hc_w0 K am N S) (hk5 : 5 < k) : MX (hc_π l D ks tl Z) (m_hc_resources k 1 6) 1 6 [.ref (am 0), .int x, .int gn] (gw K am ks N S) (fun r w => ∃ kd, kd < 4 ∧ x = nI kd ∧ r = some (.int (if gn = 0 then S.2.1 8 kd else S.2.1 9 kd)) ∧ w = gw K am ks N S) (fun E w => w = gw K am ks N S ∧ E = "java/lang/IllegalArgumentException" ∧ ¬ (¬ x < 0 ∧ ¬ 4 ≤ x)) := by
  refine mx_of pl_hc rfl (Nat.le_of_ble_eq_true rfl) (ev_eq (lv' := [some (.ref (am 0)), some (.int x), some (.int gn)]) ?_)
  refine ev_iload_1 0 d_hc_resources_0 ?_
  refine ev_callS 1 [.int x] [] d_hc_resources_1 hZ (kc_hc_198 (k9 := 0) (mc9 := 0) (ms9 := 0)) (hr_of (by omega) (by decide) (by decide) (by decide)) (ht_hc_isResourceKind x) (fun r9 w9 hw => ?_)
  obtain ⟨x1, y, x2, hy⟩ := hw
  subst x1
  subst x2
  refine ev_eq (st' := [.int y]) ?_
  refine ev_ifne 4 17 d_hc_resources_4 (fun c4 => ?_) (fun c4 => ?_)
  · obtain ⟨kd, hkd, rfl⟩ : ∃ kd, kd < 4 ∧ x = nI kd := by
      obtain ⟨z1, z2⟩ := mo_b1 hy c4
      obtain ⟨j, hj, rfl⟩ := nI_of z1
      exact ⟨j, n_nle 4 j z2, rfl⟩
    refine ev_iload_2 17 d_hc_resources_17 ?_
    refine ev_ifeq 18 30 d_hc_resources_18 (fun c18 => ?_) (fun c18 => ?_)
    · refine ev_aload_0 30 d_hc_resources_30 ?_
      refine gw_get 31 0 13 d_hc_resources_31 lk_hc_59 (h0.1.2 0 (by decide)) rfl (.ref (am 8)) h0.2.2.2.2.2.2.2.2.2.1 ?_
      refine ev_iload_1 34 d_hc_resources_34 ?_
      refine gw_ild (j := kd) 35 8 d_hc_resources_35 (h0.1.2 8 (by decide)) rfl (by rw [h0.2.1.2.2.2.2.2.2.2.1]; omega) (by rw [h0.2.1.2.2.2.2.2.2.2.1]; decide) _ rfl ?_
      refine ev_pad 1 6 (by exact Nat.le_of_ble_eq_true rfl) (by exact Nat.le_of_ble_eq_true rfl) ?_
      refine ev_toX ?_
      refine ev_iret 36 d_hc_resources_36 rfl ?_
      exact ⟨kd, hkd, rfl, by rw [if_pos c18], rfl⟩
    · refine ev_aload_0 21 d_hc_resources_21 ?_
      refine gw_get 22 0 14 d_hc_resources_22 lk_hc_62 (h0.1.2 0 (by decide)) rfl (.ref (am 9)) h0.2.2.2.2.2.2.2.2.2.2.1 ?_
      refine ev_iload_1 25 d_hc_resources_25 ?_
      refine gw_ild (j := kd) 26 9 d_hc_resources_26 (h0.1.2 9 (by decide)) rfl (by rw [h0.2.1.2.2.2.2.2.2.2.2.1]; omega) (by rw [h0.2.1.2.2.2.2.2.2.2.2.1]; decide) _ rfl ?_
      refine ev_goto 27 36 d_hc_resources_27 ?_
      refine ev_pad 1 6 (by exact Nat.le_of_ble_eq_true rfl) (by exact Nat.le_of_ble_eq_true rfl) ?_
      refine ev_toX ?_
      refine ev_iret 36 d_hc_resources_36 rfl ?_
      exact ⟨kd, hkd, rfl, by rw [if_neg c18], rfl⟩
  · refine gw_thr 7 d_hc_resources_7 d_hc_resources_10 d_hc_resources_11 d_hc_resources_13 d_hc_resources_16 hl hzx tm_201_90 xw_86_90 (by omega) (by exact Nat.le_of_ble_eq_true rfl) (by exact Nat.le_of_ble_eq_true rfl) (by exact Nat.le_of_ble_eq_true rfl) ?_
    exact ⟨rfl, rfl, mo_b0 hy c4⟩

set_option maxHeartbeats 4000000 in
set_option maxRecDepth 100000 in
theorem hx_hc_latest {l : Launch} {D : va_G} {tl : List (ClassId × FieldType)} {Z : (Nat → Prop) → State → Heap → Prop} {K : List Nat} {am : Nat → Nat} {ks : Nat → ClassId} {N : Nat → Nat} {S : gS} {k : Nat} (x : Int32) (hl : l.stackTraces = false) (hzx : hc_ZX Z) (hZ : ev_Zok Z) (h0 : hc_w0 K am N S) {c9 p9 z9 : Int32} (hc : S.1 14 0 = .int c9) (hp : S.1 14 1 = .int p9) (hz : S.1 0 17 = .int z9) (hk5 : 5 < k) : MX (hc_π l D ks tl Z) (m_hc_latest k 1 6) 1 6 [.ref (am 0), .int x] (gw K am ks N S) (fun r w => ¬ x < 0 ∧ ¬ 2 < x ∧ r = some (.int (if x = 0 then c9 else if x = 1 then p9 else z9)) ∧ w = gw K am ks N S) (fun E w => w = gw K am ks N S ∧ E = "java/lang/IllegalArgumentException" ∧ (x < 0 ∨ 2 < x)) := by
  refine mx_of pl_hc rfl (Nat.le_of_ble_eq_true rfl) (ev_eq (lv' := [some (.ref (am 0)), some (.int x)]) ?_)
  refine ev_iload_1 0 d_hc_latest_0 ?_
  rcases sw_tab (x) 0 3 (by decide) with ⟨j1, hj1, e1⟩ | e1
  · obtain h1 | h1 | h1 : j1 = 0 ∨ j1 = 1 ∨ j1 = 2 := by omega
    · subst h1
      replace e1 : x = 0 := e1
      refine ev_topi 0 e1 ?_
      refine ev_tabIn 1 28 d_hc_latest_1 (by decide) (by decide) rfl ?_
      refine ev_aload_0 28 d_hc_latest_28 ?_
      refine gw_get 29 0 16 d_hc_latest_29 lk_hc_75 (h0.1.2 0 (by decide)) rfl (.ref (am 14)) h0.2.2.2.2.2.2.2.2.2.2.2.2.1 ?_
      refine gw_get 32 14 0 d_hc_latest_32 lk_hc_282 (h0.1.2 14 (by decide)) rfl (.int c9) hc ?_
      refine ev_pad 1 6 (by exact Nat.le_of_ble_eq_true rfl) (by exact Nat.le_of_ble_eq_true rfl) ?_
      refine ev_toX ?_
      refine ev_iret 35 d_hc_latest_35 rfl ?_
      exact ⟨by rw [e1]; decide, by rw [e1]; decide, by rw [e1]; rfl, rfl⟩
    · subst h1
      replace e1 : x = 1 := e1
      refine ev_topi 1 e1 ?_
      refine ev_tabIn 1 36 d_hc_latest_1 (by decide) (by decide) rfl ?_
      refine ev_aload_0 36 d_hc_latest_36 ?_
      refine gw_get 37 0 16 d_hc_latest_37 lk_hc_75 (h0.1.2 0 (by decide)) rfl (.ref (am 14)) h0.2.2.2.2.2.2.2.2.2.2.2.2.1 ?_
      refine gw_get 40 14 1 d_hc_latest_40 lk_hc_305 (h0.1.2 14 (by decide)) rfl (.int p9) hp ?_
      refine ev_pad 1 6 (by exact Nat.le_of_ble_eq_true rfl) (by exact Nat.le_of_ble_eq_true rfl) ?_
      refine ev_toX ?_
      refine ev_iret 43 d_hc_latest_43 rfl ?_
      exact ⟨by rw [e1]; decide, by rw [e1]; decide, by rw [e1]; rfl, rfl⟩
    · subst h1
      replace e1 : x = 2 := e1
      refine ev_topi 2 e1 ?_
      refine ev_tabIn 1 44 d_hc_latest_1 (by decide) (by decide) rfl ?_
      refine ev_aload_0 44 d_hc_latest_44 ?_
      refine gw_get 45 0 17 d_hc_latest_45 lk_hc_79 (h0.1.2 0 (by decide)) rfl (.int z9) hz ?_
      refine ev_pad 1 6 (by exact Nat.le_of_ble_eq_true rfl) (by exact Nat.le_of_ble_eq_true rfl) ?_
      refine ev_toX ?_
      refine ev_iret 48 d_hc_latest_48 rfl ?_
      exact ⟨by rw [e1]; decide, by rw [e1]; decide, by rw [e1]; rfl, rfl⟩
  · refine ev_tabOut 1 49 d_hc_latest_1 e1 ?_
    refine gw_thr 49 d_hc_latest_49 d_hc_latest_52 d_hc_latest_53 d_hc_latest_55 d_hc_latest_58 hl hzx tm_128_90 xw_86_90 (by omega) (by exact Nat.le_of_ble_eq_true rfl) (by exact Nat.le_of_ble_eq_true rfl) (by exact Nat.le_of_ble_eq_true rfl) ?_
    exact ⟨rfl, rfl, e1.elim (fun z => Or.inl (Int32.lt_iff_toInt_lt.mpr z)) (fun z => Or.inr (Int32.lt_iff_toInt_lt.mpr z))⟩
