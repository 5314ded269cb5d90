set_option maxHeartbeats 4000000 in
set_option maxRecDepth 100000 in
theorem hx_hc_fits {l : Launch} {D : va_G} {tl : List (ClassId × FieldType)} {Z : (Nat → Prop) → State → Heap → Prop} {K : List Nat} {am : Nat → Nat} {ks : Nat → ClassId} {N : Nat → Nat} {S : gS} {k : Nat} (t : Int32) (u9 : Int32) (hl : l.stackTraces = false) (hzx : hc_ZX Z) (hZ : ev_Zok Z) (h0 : hc_w0 K am N S) {B : Nat → Nat → Int32} {NT : Nat} {ct : Nat → Nat} {pt : Nat → Nat → Nat} (hT : TyR K am N S B NT ct pt) (e1 : S.1 0 1 = .int (nI NT)) {dp : Nat → Nat} (hW : ty_wf B NT ct dp pt) (hk5 : 8 < k) : MX (hc_π l D ks tl Z) (m_hc_fits k 1 6) 1 6 [.ref (am 0), .int t, .int u9] (gw K am ks N S) (fun r w => ∃ a b, a < NT ∧ b < NT ∧ t = nI a ∧ u9 = nI b ∧ r = some (.int (nI (nb_v (nb_r B ct pt 5 a b 0)))) ∧ w = gw K am ks N S) (fun E w => w = gw K am ks N S ∧ E = "java/lang/IllegalArgumentException" ∧ ¬ ((¬ t < 0 ∧ ¬ nI NT ≤ t) ∧ (¬ u9 < 0 ∧ ¬ nI NT ≤ u9))) := by
  refine mx_of pl_hc rfl (Nat.le_of_ble_eq_true rfl) (ev_eq (lv' := [some (.ref (am 0)), some (.int t), some (.int u9)]) ?_)
  refine ev_aload_0 0 d_hc_fits_0 ?_
  refine ev_iload_1 1 d_hc_fits_1 ?_
  refine gw_callV 2 0 [.int t] [] d_hc_fits_2 hZ (kc_hc_82 (k9 := 0) (mc9 := 0) (ms9 := 0)) (hr_of (by omega) (by decide) (by decide) (by decide)) (h0.1.2 0 (by decide)) rfl rfl (ht_hc_isType t (h0.1.2 0 (by decide)) (nI NT) e1) (fun r9 w9 hw => ?_)
  obtain ⟨x1, y, x2, hy⟩ := hw
  subst x1
  subst x2
  refine ev_eq (st' := [.int y]) ?_
  refine ev_ifeq 5 16 d_hc_fits_5 (fun c5 => ?_) (fun c5 => ?_)
  · refine gw_thr 16 d_hc_fits_16 d_hc_fits_19 d_hc_fits_20 d_hc_fits_22 d_hc_fits_25 hl hzx tm_88_90 xw_86_90 (by omega) (by exact Nat.le_of_ble_eq_true rfl) (by exact Nat.le_of_ble_eq_true rfl) (by exact Nat.le_of_ble_eq_true rfl) ?_
    exact ⟨rfl, rfl, fun z => absurd z.1 (mo_b0 hy c5)⟩
  · have h1 := mo_b1 hy c5
    obtain ⟨a, ha, rfl⟩ := n_typ rfl hT.1 h1
    refine ev_aload_0 8 d_hc_fits_8 ?_
    refine ev_iload_2 9 d_hc_fits_9 ?_
    refine gw_callV 10 0 [.int u9] [] d_hc_fits_10 hZ (kc_hc_82 (k9 := 0) (mc9 := 0) (ms9 := 0)) (hr_of (by omega) (by decide) (by decide) (by decide)) (h0.1.2 0 (by decide)) rfl rfl (ht_hc_isType u9 (h0.1.2 0 (by decide)) (nI NT) e1) (fun r9 w9 hw => ?_)
    obtain ⟨x1, z, x2, hz⟩ := hw
    subst x1
    subst x2
    refine ev_eq (st' := [.int z]) ?_
    refine ev_ifne 13 26 d_hc_fits_13 (fun c13 => ?_) (fun c13 => ?_)
    · have h2 := mo_b1 hz c13
      obtain ⟨b, hb, rfl⟩ := n_typ rfl hT.1 h2
      refine ev_aload_0 26 d_hc_fits_26 ?_
      refine gw_get 27 0 0 d_hc_fits_27 lk_hc_11 (h0.1.2 0 (by decide)) rfl (.ref (am 1)) h0.2.2.1 ?_
      refine ev_iload_1 30 d_hc_fits_30 ?_
      refine gw_qld (j := a) 31 1 d_hc_fits_31 (h0.1.2 1 (by decide)) rfl (by rw [h0.2.1.1]; have := hT.1; omega) (by rw [h0.2.1.1]; decide) _ (hT.q ha) ?_
      refine ev_aload_0 32 d_hc_fits_32 ?_
      refine gw_get 33 0 0 d_hc_fits_33 lk_hc_11 (h0.1.2 0 (by decide)) rfl (.ref (am 1)) h0.2.2.1 ?_
      refine ev_iload_2 36 d_hc_fits_36 ?_
      refine gw_qld (j := b) 37 1 d_hc_fits_37 (h0.1.2 1 (by decide)) rfl (by rw [h0.2.1.1]; have := hT.1; omega) (by rw [h0.2.1.1]; decide) _ (hT.q hb) ?_
      refine ev_callS 38 [.ref (am (100 + 3 * a)), .ref (am (100 + 3 * b))] [] d_hc_fits_38 hZ (kc_hc_140 (k9 := 8) (mc9 := 0) (ms9 := 0)) (hr_of (by omega) (by decide) (by decide) (by decide)) (ht_hc_firstMisfit a b hZ hT hW ha hb (by decide)) (fun r9 w9 hw => ?_)
      obtain ⟨x1, x2⟩ := hw
      subst x1
      subst x2
      refine ev_eq (st' := [.int (nI (nb_v (nb_r B ct pt 5 a b 0)))]) ?_
      refine ev_pad 1 6 (by exact Nat.le_of_ble_eq_true rfl) (by exact Nat.le_of_ble_eq_true rfl) ?_
      refine ev_toX ?_
      refine ev_iret 41 d_hc_fits_41 rfl ?_
      exact ⟨a, b, ha, hb, rfl, rfl, rfl, rfl⟩
    · refine gw_thr 16 d_hc_fits_16 d_hc_fits_19 d_hc_fits_20 d_hc_fits_22 d_hc_fits_25 hl hzx tm_88_90 xw_86_90 (by omega) (by exact Nat.le_of_ble_eq_true rfl) (by exact Nat.le_of_ble_eq_true rfl) (by exact Nat.le_of_ble_eq_true rfl) ?_
      exact ⟨rfl, rfl, fun z9 => absurd z9.2 (mo_b0 hz c13)⟩

theorem us_eq {B : Nat → Nat → Int32} {ho : Nat → Nat} {J : Nat} (h : ∀ j, j < 16 → (ho j = 0 ↔ B 16 (17 * J + j + 1) = 0)) : ∀ n, n ≤ 16 → hh_us ho n = mo_iu (B 16) (17 * J) n := by
  intro n
  induction n with
  | zero => intro _; rfl
  | succ n ih =>
    intro hn
    rw [hh_us, mo_iu, ih (by omega)]
    have e := h n (by omega)
    rw [show 17 * J + n + 1 = 17 * J + (n + 1) by omega] at e
    by_cases c : ho n = 0
    · rw [if_pos c, if_pos (e.mp c)]
    · rw [if_neg c, if_neg (fun z => c (e.mpr z))]

set_option maxHeartbeats 4000000 in
set_option maxRecDepth 100000 in
theorem hx_hc_state {l : Launch} {D : va_G} {tl : List (ClassId × FieldType)} {Z : (Nat → Prop) → State → Heap → Prop} {K : List Nat} {am : Nat → Nat} {ks : Nat → ClassId} {N : Nat → Nat} {S : gS} {k : Nat} (i : Int32) (w9 : Int32) (hl : l.stackTraces = false) (hzx : hc_ZX Z) (hZ : ev_Zok Z) (h0 : hc_w0 K am N S) {ni : Nat} (hn6 : ni ≤ 6) (e5 : S.1 0 5 = .int (nI ni)) (hins : ∀ i, i < ni → in_ok K am N S i ∧ S.2.2.1 3 i = some (am (200 + 20 * i))) {b14 b15 : Nat → Int32} (h14 : ∀ i, i < ni → S.1 (200 + 20 * i) 2 = .int (b14 i)) (h15 : ∀ i, i < ni → S.1 (200 + 20 * i) 3 = .int (b15 i)) {B : Nat → Nat → Int32} (hd : Nat → Nat) (hZ9 : ho_Z Z hd) (hDi : ho_D hd) (hA : HA am hd S B fr0 (lnB B) ni) (hTk : ∀ x, x < 102 → B 20 x = 0) (hk5 : 5 < k) : MX (hc_π l D ks tl Z) (m_hc_state k 1 6) 1 6 [.ref (am 0), .int i, .int w9] (gw K am ks N S) (fun r w => ∃ j, j < ni ∧ i = nI j ∧ ¬ w9 < 0 ∧ ¬ 2 < w9 ∧ r = some (.int (if w9 = 0 then b15 j else if w9 = 1 then b14 j else nI (mo_iu (B 16) (17 * j) 16))) ∧ w = gw K am ks N S) (fun E w => w = gw K am ks N S ∧ E = "java/lang/IllegalArgumentException" ∧ (¬ (¬ i < 0 ∧ ¬ nI ni ≤ i) ∨ w9 < 0 ∨ 2 < w9)) := by
  refine mx_of pl_hc rfl (Nat.le_of_ble_eq_true rfl) (ev_eq (lv' := [some (.ref (am 0)), some (.int i), some (.int w9)]) ?_)
  refine ev_aload_0 0 d_hc_state_0 ?_
  refine ev_iload_1 1 d_hc_state_1 ?_
  refine gw_callV 2 0 [.int i] [] d_hc_state_2 hZ (kc_hc_147 (k9 := 0) (mc9 := 0) (ms9 := 0)) (hr_of (by omega) (by decide) (by decide) (by decide)) (h0.1.2 0 (by decide)) rfl rfl (ht_hc_isInstance i (h0.1.2 0 (by decide)) (nI ni) e5) (fun r9 w9 hw => ?_)
  obtain ⟨x1, y, x2, hy⟩ := hw
  subst x1
  subst x2
  refine ev_eq (st' := [.int y]) ?_
  refine ev_ifeq 5 17 d_hc_state_5 (fun c5 => ?_) (fun c5 => ?_)
  · refine gw_thrW 17 d_hc_state_17 d_hc_state_20 d_hc_state_21 d_hc_state_24 d_hc_state_27 hl hzx tm_295_90 xw_86_90 (by omega) (by exact Nat.le_of_ble_eq_true rfl) (by exact Nat.le_of_ble_eq_true rfl) (by exact Nat.le_of_ble_eq_true rfl) ?_
    exact ⟨rfl, rfl, Or.inl (mo_b0 hy c5)⟩
  · obtain ⟨j, hj, rfl⟩ := n_ins rfl hn6 (mo_b1 hy c5)
    refine ev_iload_2 8 d_hc_state_8 ?_
    refine ev_iflt 9 17 d_hc_state_9 (fun c9 => ?_) (fun c9 => ?_)
    · refine gw_thrW 17 d_hc_state_17 d_hc_state_20 d_hc_state_21 d_hc_state_24 d_hc_state_27 hl hzx tm_295_90 xw_86_90 (by omega) (by exact Nat.le_of_ble_eq_true rfl) (by exact Nat.le_of_ble_eq_true rfl) (by exact Nat.le_of_ble_eq_true rfl) ?_
      exact ⟨rfl, rfl, Or.inr (Or.inl c9)⟩
    · refine ev_iload_2 12 d_hc_state_12 ?_
      refine ev_iconst_2 13 d_hc_state_13 ?_
      refine ev_icmple 14 28 d_hc_state_14 (fun c14 => ?_) (fun c14 => ?_)
      · refine ev_iload_2 28 d_hc_state_28 ?_
        by_cases e29_0 : w9 = 0
        · refine ev_topi 0 e29_0 ?_
          refine ev_look 29 56 d_hc_state_29 (by decide) rfl ?_
          refine ev_aload_0 56 d_hc_state_56 ?_
          refine gw_get 57 0 4 d_hc_state_57 lk_hc_27 (h0.1.2 0 (by decide)) rfl (.ref (am 3)) h0.2.2.2.2.1 ?_
          refine ev_iload_1 60 d_hc_state_60 ?_
          refine gw_qld (j := j) 61 3 d_hc_state_61 (h0.1.2 3 (by decide)) rfl (by rw [h0.2.1.2.2.1]; omega) (by rw [h0.2.1.2.2.1]; decide) _ (hins j hj).2 ?_
          refine gw_get 62 (200 + 20 * j) 3 d_hc_state_62 lk_hc_182 (hins j hj).1.1 (gk_in j (by omega)).1 (.int (b15 j)) (h15 j hj) ?_
          refine ev_pad 1 6 (by exact Nat.le_of_ble_eq_true rfl) (by exact Nat.le_of_ble_eq_true rfl) ?_
          refine ev_toX ?_
          refine ev_iret 65 d_hc_state_65 rfl ?_
          exact ⟨j, hj, rfl, c9, Int32.not_lt.mpr c14, by rw [if_pos e29_0], rfl⟩
        by_cases e29_1 : w9 = 1
        · refine ev_topi 1 e29_1 ?_
          refine ev_look 29 66 d_hc_state_29 (by decide) rfl ?_
          refine ev_aload_0 66 d_hc_state_66 ?_
          refine gw_get 67 0 4 d_hc_state_67 lk_hc_27 (h0.1.2 0 (by decide)) rfl (.ref (am 3)) h0.2.2.2.2.1 ?_
          refine ev_iload_1 70 d_hc_state_70 ?_
          refine gw_qld (j := j) 71 3 d_hc_state_71 (h0.1.2 3 (by decide)) rfl (by rw [h0.2.1.2.2.1]; omega) (by rw [h0.2.1.2.2.1]; decide) _ (hins j hj).2 ?_
          refine gw_get 72 (200 + 20 * j) 2 d_hc_state_72 lk_hc_297 (hins j hj).1.1 (gk_in j (by omega)).1 (.int (b14 j)) (h14 j hj) ?_
          refine ev_pad 1 6 (by exact Nat.le_of_ble_eq_true rfl) (by exact Nat.le_of_ble_eq_true rfl) ?_
          refine ev_toX ?_
          refine ev_iret 75 d_hc_state_75 rfl ?_
          exact ⟨j, hj, rfl, c9, Int32.not_lt.mpr c14, by rw [if_neg e29_0, if_pos e29_1], rfl⟩
        refine ev_look 29 76 d_hc_state_29 (by decide) (sw_lk2 (sw_tn (k := 0) e29_0) (sw_tn (k := 1) e29_1)) ?_
        refine ev_aload_0 76 d_hc_state_76 ?_
        refine gw_get 77 0 4 d_hc_state_77 lk_hc_27 (h0.1.2 0 (by decide)) rfl (.ref (am 3)) h0.2.2.2.2.1 ?_
        refine ev_iload_1 80 d_hc_state_80 ?_
        refine gw_qld (j := j) 81 3 d_hc_state_81 (h0.1.2 3 (by decide)) rfl (by rw [h0.2.1.2.2.1]; omega) (by rw [h0.2.1.2.2.1]; decide) _ (hins j hj).2 ?_
        refine gw_callV 82 (200 + 20 * j) [] [] d_hc_state_82 hZ (kc_hc_300 (k9 := 0) (mc9 := 0) (ms9 := 0)) (hr_of (by omega) (by decide) (by decide) (by decide)) (hins j hj).1.1 (gk_in j (by omega)).1 rfl (ht_in_handlesInUse j hd hZ9 hDi (by omega) (hins j hj).1 (fun h => hof B fr0 (17 * j + h + 1)) (fun h hh => ⟨hof_lt _ _ _, (hA j h hj hh).1⟩)) (fun r9 w9 hw => ?_)
        obtain ⟨x1, x2⟩ := hw
        subst x1
        subst x2
        rw [us_eq (B := B) (J := j) (fun j _ => hof0) 16 (Nat.le_refl _)]
        refine ev_eq (st' := [.int (nI (mo_iu (B 16) (17 * j) 16))]) ?_
        refine ev_pad 1 6 (by exact Nat.le_of_ble_eq_true rfl) (by exact Nat.le_of_ble_eq_true rfl) ?_
        refine ev_toX ?_
        refine ev_iret 85 d_hc_state_85 rfl ?_
        exact ⟨j, hj, rfl, c9, Int32.not_lt.mpr c14, by rw [if_neg e29_0, if_neg e29_1], rfl⟩
      · refine gw_thrW 17 d_hc_state_17 d_hc_state_20 d_hc_state_21 d_hc_state_24 d_hc_state_27 hl hzx tm_295_90 xw_86_90 (by omega) (by exact Nat.le_of_ble_eq_true rfl) (by exact Nat.le_of_ble_eq_true rfl) (by exact Nat.le_of_ble_eq_true rfl) ?_
        exact ⟨rfl, rfl, Or.inr (Or.inr (Int32.not_le.mp c14))⟩

def hv9 (B : Nat → Nat → Int32) (x : Nat) (w : Int32) : Int32 := if B 16 x = 0 then -1 else if w = 0 then B 17 x else if w = 1 then B 23 (B 17 x).toNatClampNeg else if w = 2 then (if B 18 x = 0 then 0 else 1) else lnB B x

set_option maxHeartbeats 4000000 in
set_option maxRecDepth 100000 in
theorem hx_hc_handle {l : Launch} {D : va_G} {tl : List (ClassId × FieldType)} {Z : (Nat → Prop) → State → Heap → Prop} {K : List Nat} {am : Nat → Nat} {ks : Nat → ClassId} {N : Nat → Nat} {S : gS} {k : Nat} (i : Int32) (h : Int32) (w9 : Int32) (hl : l.stackTraces = false) (hzx : hc_ZX Z) (hZ : ev_Zok Z) (h0 : hc_w0 K am N S) {ni : Nat} (hn6 : ni ≤ 6) (e5 : S.1 0 5 = .int (nI ni)) (hins : ∀ i, i < ni → in_ok K am N S i ∧ S.2.2.1 3 i = some (am (200 + 20 * i))) {B : Nat → Nat → Int32} (hd : Nat → Nat) (hZ9 : ho_Z Z hd) (hDi : ho_D hd) (hA : HA am hd S B fr0 (lnB B) ni) (hTk : ∀ x, x < 102 → B 20 x = 0) (hk5 : 5 < k) : MX (hc_π l D ks tl Z) (m_hc_handle k 1 6) 1 6 [.ref (am 0), .int i, .int h, .int w9] (gw K am ks N S) (fun r w => ∃ j jj, j < ni ∧ i = nI j ∧ 1 ≤ jj ∧ jj ≤ 16 ∧ h = nI jj ∧ ¬ w9 < 0 ∧ ¬ 3 < w9 ∧ r = some (.int (hv9 B (17 * j + jj) w9)) ∧ w = gw K am ks N S) (fun E w => w = gw K am ks N S ∧ E = "java/lang/IllegalArgumentException" ∧ (¬ (¬ i < 0 ∧ ¬ nI ni ≤ i) ∨ h < 1 ∨ 16 < h ∨ w9 < 0 ∨ 3 < w9)) := by
  refine mx_of pl_hc rfl (Nat.le_of_ble_eq_true rfl) (ev_eq (lv' := [some (.ref (am 0)), some (.int i), some (.int h), some (.int w9), none]) ?_)
  have LN : ∀ j jj : Nat, j < ni → i = nI j → 1 ≤ jj → jj ≤ 16 → h = nI jj → ¬ w9 < 0 → ¬ 3 < w9 → B 16 (17 * j + jj) = 0 → EV (hc_π l D ks tl Z) (m_hc_handle k 1 6) (ev_EX (hc_π l D ks tl Z) 1 6 (fun r w => ∃ j jj, j < ni ∧ i = nI j ∧ 1 ≤ jj ∧ jj ≤ 16 ∧ h = nI jj ∧ ¬ w9 < 0 ∧ ¬ 3 < w9 ∧ r = some (.int (hv9 B (17 * j + jj) w9)) ∧ w = gw K am ks N S) (fun E w => w = gw K am ks N S ∧ E = "java/lang/IllegalArgumentException" ∧ (¬ (¬ i < 0 ∧ ¬ nI ni ≤ i) ∨ h < 1 ∨ 16 < h ∨ w9 < 0 ∨ 3 < w9))) 0 0 48 [some (.ref (am 0)), some (.int (nI j)), some (.int (nI jj)), some (.int w9), none] [.null] (gw K am ks N S) := by
    intro j jj hj ei j1 j2 eh w1 w2 hu
    refine ev_astoreN_4 48 d_hc_handle_48 ?_ (hn := by exact Nat.le_of_ble_eq_true rfl)
    refine ev_aloadN_4 50 d_hc_handle_50 ?_
    refine ev_ifnonnullN 52 d_hc_handle_52 ?_
    refine ev_iconst_m1 55 d_hc_handle_55 ?_
    refine ev_pad 1 6 (by exact Nat.le_of_ble_eq_true rfl) (by exact Nat.le_of_ble_eq_true rfl) ?_
    refine ev_toX ?_
    refine ev_iret 56 d_hc_handle_56 rfl ?_
    exact ⟨j, jj, hj, ei, j1, j2, eh, w1, w2, by rw [hv9, if_pos hu], rfl⟩
  have LR : ∀ j jj h9 : Nat, j < ni → i = nI j → 1 ≤ jj → jj ≤ 16 → h = nI jj → ¬ w9 < 0 → ¬ 3 < w9 → jj = h9 + 1 → ¬ B 16 (17 * j + jj) = 0 → EV (hc_π l D ks tl Z) (m_hc_handle k 1 6) (ev_EX (hc_π l D ks tl Z) 1 6 (fun r w => ∃ j jj, j < ni ∧ i = nI j ∧ 1 ≤ jj ∧ jj ≤ 16 ∧ h = nI jj ∧ ¬ w9 < 0 ∧ ¬ 3 < w9 ∧ r = some (.int (hv9 B (17 * j + jj) w9)) ∧ w = gw K am ks N S) (fun E w => w = gw K am ks N S ∧ E = "java/lang/IllegalArgumentException" ∧ (¬ (¬ i < 0 ∧ ¬ nI ni ≤ i) ∨ h < 1 ∨ 16 < h ∨ w9 < 0 ∨ 3 < w9))) 0 0 48 [some (.ref (am 0)), some (.int (nI j)), some (.int (nI jj)), some (.int w9), none] [.ref (am (203 + 20 * j + h9))] (gw K am ks N S) := by
    intro j jj h9 hj ei j1 j2 eh w1 w2 ej hu
    have hxe : 17 * j + jj = 17 * j + h9 + 1 := by omega
    obtain ⟨a1, a2, a3⟩ := hA j h9 hj (by omega)
    rw [← hxe] at a1 a2 a3
    obtain ⟨b0, b1, -⟩ := a3 hu
    have kK := ((hins j hj).1.2.2.2.2.2.2.2 h9 (by omega)).1
    have kg := (gk_in j (by omega)).2.2.2 h9 (by omega)
    refine ev_astore_4 48 d_hc_handle_48 ?_ (hn := by exact Nat.le_of_ble_eq_true rfl)
    refine ev_aload_4 50 d_hc_handle_50 ?_
    refine ev_ifnonnull 52 57 d_hc_handle_52 ?_
    refine ev_iload_3 57 d_hc_handle_57 ?_
    rcases sw_tab (w9) 0 3 (by decide) with ⟨j58, hj58, e58⟩ | e58
    · obtain h58 | h58 | h58 : j58 = 0 ∨ j58 = 1 ∨ j58 = 2 := by omega
      · subst h58
        replace e58 : w9 = 0 := e58
        refine ev_topi 0 e58 ?_
        refine ev_tabIn 58 84 d_hc_handle_58 (by decide) (by decide) rfl ?_
        refine ev_aload_4 84 d_hc_handle_84 ?_
        refine gw_get 86 (203 + 20 * j + h9) 0 d_hc_handle_86 lk_hc_254 kK kg (.int (B 17 (17 * j + jj))) b0 ?_
        refine ev_pad 1 6 (by exact Nat.le_of_ble_eq_true rfl) (by exact Nat.le_of_ble_eq_true rfl) ?_
        refine ev_toX ?_
        refine ev_iret 89 d_hc_handle_89 rfl ?_
        exact ⟨j, jj, hj, ei, j1, j2, eh, w1, w2, by rw [hv9, if_neg hu, if_pos e58], rfl⟩
      · subst h58
        replace e58 : w9 = 1 := e58
        refine ev_topi 1 e58 ?_
        refine ev_tabIn 58 90 d_hc_handle_58 (by decide) (by decide) rfl ?_
        refine ev_aload_4 90 d_hc_handle_90 ?_
        refine gw_get 92 (203 + 20 * j + h9) 1 d_hc_handle_92 lk_hc_257 kK kg (.int (B 23 (B 17 (17 * j + jj)).toNatClampNeg)) b1 ?_
        refine ev_pad 1 6 (by exact Nat.le_of_ble_eq_true rfl) (by exact Nat.le_of_ble_eq_true rfl) ?_
        refine ev_toX ?_
        refine ev_iret 95 d_hc_handle_95 rfl ?_
        exact ⟨j, jj, hj, ei, j1, j2, eh, w1, w2, by rw [hv9, if_neg hu, if_neg (by rw [e58]; decide), if_pos e58], rfl⟩
      · subst h58
        replace e58 : w9 = 2 := e58
        refine ev_topi 2 e58 ?_
        refine ev_tabIn 58 96 d_hc_handle_58 (by decide) (by decide) rfl ?_
        refine ev_aload_4 96 d_hc_handle_96 ?_
        refine gw_get 98 (203 + 20 * j + h9) 3 d_hc_handle_98 lk_hc_242 kK kg (va_rf (some (hd (hof B fr0 (17 * j + jj))))) a1 ?_
        refine ev_gets (v := va_rf (some (hd 1))) 101 d_hc_handle_101 (fun A s z => hZ9 A s z 1) ls_hc_216 ?_
        refine ev_acmpne 104 111 d_hc_handle_104 (fun c104 => ?_) (fun c104 => ?_)
        · refine ev_iconst_0 111 d_hc_handle_111 ?_
          refine ev_pad 1 6 (by exact Nat.le_of_ble_eq_true rfl) (by exact Nat.le_of_ble_eq_true rfl) ?_
          refine ev_toX ?_
          refine ev_iret 112 d_hc_handle_112 rfl ?_
          have hs := (hof12 (B := B) (x := 17 * j + jj)).mpr ⟨hu, hTk _ (by omega)⟩
          have h2 : hof B fr0 (17 * j + jj) = 2 := hs.resolve_left (fun z => c104 (by rw [z]))
          exact ⟨j, jj, hj, ei, j1, j2, eh, w1, w2, by rw [hv9, if_neg hu, if_neg (by rw [e58]; decide), if_neg (by rw [e58]; decide), if_pos e58, if_pos (hof2 h2).2], rfl⟩
        · refine ev_iconst_1 107 d_hc_handle_107 ?_
          refine ev_goto 108 112 d_hc_handle_108 ?_
          refine ev_pad 1 6 (by exact Nat.le_of_ble_eq_true rfl) (by exact Nat.le_of_ble_eq_true rfl) ?_
          refine ev_toX ?_
          refine ev_iret 112 d_hc_handle_112 rfl ?_
          have hs := (hof12 (B := B) (x := 17 * j + jj)).mpr ⟨hu, hTk _ (by omega)⟩
          have h1 := hDi (hof B fr0 (17 * j + jj)) 1 (hof_lt _ _ _) (by decide) (Option.some.inj c104)
          exact ⟨j, jj, hj, ei, j1, j2, eh, w1, w2, by rw [hv9, if_neg hu, if_neg (by rw [e58]; decide), if_neg (by rw [e58]; decide), if_pos e58, if_neg (hof1 h1).2.2], rfl⟩
    · refine ev_tabOut 58 113 d_hc_handle_58 e58 ?_
      refine ev_aload_4 113 d_hc_handle_113 ?_
      refine gw_get 115 (203 + 20 * j + h9) 2 d_hc_handle_115 lk_hc_237 kK kg (.int (lnB B (17 * j + jj))) a2 ?_
      refine ev_pad 1 6 (by exact Nat.le_of_ble_eq_true rfl) (by exact Nat.le_of_ble_eq_true rfl) ?_
      refine ev_toX ?_
      refine ev_iret 118 d_hc_handle_118 rfl ?_
      exact ⟨j, jj, hj, ei, j1, j2, eh, w1, w2, by rw [hv9, if_neg hu, if_neg (show ¬ w9 = 0 from sw_ne (k := 0) e58 (by decide) (by decide) (by decide)), if_neg (show ¬ w9 = 1 from sw_ne (k := 1) e58 (by decide) (by decide) (by decide)), if_neg (show ¬ w9 = 2 from sw_ne (k := 2) e58 (by decide) (by decide) (by decide))], rfl⟩
  refine ev_aload_0 0 d_hc_handle_0 ?_
  refine ev_iload_1 1 d_hc_handle_1 ?_
  refine gw_callV 2 0 [.int i] [] d_hc_handle_2 hZ (kc_hc_147 (k9 := 0) (mc9 := 0) (ms9 := 0)) (hr_of (by omega) (by decide) (by decide) (by decide)) (h0.1.2 0 (by decide)) rfl rfl (ht_hc_isInstance i (h0.1.2 0 (by decide)) (nI ni) e5) (fun r9 w9 hw => ?_)
  obtain ⟨x1, y, x2, hy⟩ := hw
  subst x1
  subst x2
  refine ev_eq (st' := [.int y]) ?_
  refine ev_ifeq 5 28 d_hc_handle_5 (fun c5 => ?_) (fun c5 => ?_)
  · refine gw_thr 28 d_hc_handle_28 d_hc_handle_31 d_hc_handle_32 d_hc_handle_34 d_hc_handle_37 hl hzx tm_252_90 xw_86_90 (by omega) (by exact Nat.le_of_ble_eq_true rfl) (by exact Nat.le_of_ble_eq_true rfl) (by exact Nat.le_of_ble_eq_true rfl) ?_
    exact ⟨rfl, rfl, Or.inl (mo_b0 hy c5)⟩
  · obtain ⟨j, hj, rfl⟩ := n_ins rfl hn6 (mo_b1 hy c5)
    refine ev_iload_2 8 d_hc_handle_8 ?_
    refine ev_iconst_1 9 d_hc_handle_9 ?_
    refine ev_icmplt 10 28 d_hc_handle_10 (fun c10 => ?_) (fun c10 => ?_)
    · refine gw_thr 28 d_hc_handle_28 d_hc_handle_31 d_hc_handle_32 d_hc_handle_34 d_hc_handle_37 hl hzx tm_252_90 xw_86_90 (by omega) (by exact Nat.le_of_ble_eq_true rfl) (by exact Nat.le_of_ble_eq_true rfl) (by exact Nat.le_of_ble_eq_true rfl) ?_
      exact ⟨rfl, rfl, Or.inr (Or.inl c10)⟩
    · refine ev_iload_2 13 d_hc_handle_13 ?_
      refine ev_bipush (16) 14 d_hc_handle_14 (by decide) ?_
      refine ev_icmpgt 16 28 d_hc_handle_16 (fun c16 => ?_) (fun c16 => ?_)
      · refine gw_thr 28 d_hc_handle_28 d_hc_handle_31 d_hc_handle_32 d_hc_handle_34 d_hc_handle_37 hl hzx tm_252_90 xw_86_90 (by omega) (by exact Nat.le_of_ble_eq_true rfl) (by exact Nat.le_of_ble_eq_true rfl) (by exact Nat.le_of_ble_eq_true rfl) ?_
        exact ⟨rfl, rfl, Or.inr (Or.inr (Or.inl c16))⟩
      · obtain ⟨jj, j1, j2, rfl⟩ := n_rng c10 c16
        refine ev_iload_3 19 d_hc_handle_19 ?_
        refine ev_iflt 20 28 d_hc_handle_20 (fun c20 => ?_) (fun c20 => ?_)
        · refine gw_thr 28 d_hc_handle_28 d_hc_handle_31 d_hc_handle_32 d_hc_handle_34 d_hc_handle_37 hl hzx tm_252_90 xw_86_90 (by omega) (by exact Nat.le_of_ble_eq_true rfl) (by exact Nat.le_of_ble_eq_true rfl) (by exact Nat.le_of_ble_eq_true rfl) ?_
          exact ⟨rfl, rfl, Or.inr (Or.inr (Or.inr (Or.inl c20)))⟩
        · refine ev_iload_3 23 d_hc_handle_23 ?_
          refine ev_iconst_3 24 d_hc_handle_24 ?_
          refine ev_icmple 25 38 d_hc_handle_25 (fun c25 => ?_) (fun c25 => ?_)
          · refine ev_aload_0 38 d_hc_handle_38 ?_
            refine gw_get 39 0 4 d_hc_handle_39 lk_hc_27 (h0.1.2 0 (by decide)) rfl (.ref (am 3)) h0.2.2.2.2.1 ?_
            refine ev_iload_1 42 d_hc_handle_42 ?_
            refine gw_qld (j := j) 43 3 d_hc_handle_43 (h0.1.2 3 (by decide)) rfl (by rw [h0.2.1.2.2.1]; omega) (by rw [h0.2.1.2.2.1]; decide) _ (hins j hj).2 ?_
            refine ev_iload_2 44 d_hc_handle_44 ?_
            refine gw_callV 45 (200 + 20 * j) [.int (nI jj)] [] d_hc_handle_45 hZ (kc_hc_228 (k9 := 0) (mc9 := 0) (ms9 := 0)) (hr_of (by omega) (by decide) (by decide) (by decide)) (hins j hj).1.1 (gk_in j (by omega)).1 rfl (ht_in_handleInUse j (nI jj) hd hZ9 hDi (by omega) (hins j hj).1 (fun h => hof B fr0 (17 * j + h + 1)) (fun h hh => ⟨hof_lt _ _ _, (hA j h hj hh).1⟩)) (fun r9 w9 hw => ?_)
            obtain ⟨x1, hw⟩ := hw
            subst x1
            rcases hw with ⟨hx, x2⟩ | ⟨h9, hh9, hx, hw⟩
            · subst x2
              exact absurd hx (fun z => z.elim c10 (fun y => y (Int32.not_lt.mp c16)))
            · rcases hw with ⟨hx2, x2⟩ | ⟨hx2, x2⟩
              · subst x2
                exact ev_eq (LR j jj h9 hj rfl j1 j2 rfl c20 (Int32.not_lt.mpr c25) (n_eq jj (h9 + 1) hx) (by rw [show 17 * j + jj = 17 * j + h9 + 1 by have := n_eq jj (h9 + 1) hx; omega]; exact (hof12.mp hx2).1))
              · subst x2
                exact ev_eq (LN j jj hj rfl j1 j2 rfl c20 (Int32.not_lt.mpr c25) (Decidable.byContradiction (fun z => hx2 (hof12.mpr ⟨by rw [show 17 * j + h9 + 1 = 17 * j + jj by have := n_eq jj (h9 + 1) hx; omega]; exact z, hTk _ (by omega)⟩))))
          · refine gw_thr 28 d_hc_handle_28 d_hc_handle_31 d_hc_handle_32 d_hc_handle_34 d_hc_handle_37 hl hzx tm_252_90 xw_86_90 (by omega) (by exact Nat.le_of_ble_eq_true rfl) (by exact Nat.le_of_ble_eq_true rfl) (by exact Nat.le_of_ble_eq_true rfl) ?_
            exact ⟨rfl, rfl, Or.inr (Or.inr (Or.inr (Or.inr (Int32.not_le.mp c25))))⟩

set_option maxHeartbeats 4000000 in
set_option maxRecDepth 100000 in
theorem hx_hc_trap {l : Launch} {D : va_G} {tl : List (ClassId × FieldType)} {Z : (Nat → Prop) → State → Heap → Prop} {K : List Nat} {am : Nat → Nat} {ks : Nat → ClassId} {N : Nat → Nat} {S : gS} {k : Nat}  (hl : l.stackTraces = false) (hzx : hc_ZX Z) (hZ : ev_Zok Z) (h0 : hc_w0 K am N S) {ni : Nat} (hn6 : ni ≤ 6) (e5 : S.1 0 5 = .int (nI ni)) (hins : ∀ i, i < ni → in_ok K am N S i ∧ S.2.2.1 3 i = some (am (200 + 20 * i))) {Lv : Nat} (hL : S.1 0 11 = .int (nI Lv)) (hL6 : Lv ≤ 6) {ru : Nat → Nat} (hru : ∀ k, k < Lv → S.2.1 5 k = nI (ru k) ∧ ru k < ni) {b15 b30 : Nat → Int32} (h15 : ∀ i, i < ni → S.1 (200 + 20 * i) 3 = .int (b15 i)) (h30 : ∀ k, k < Lv → b30 k = nI (ru k)) {B : Nat → Nat → Int32} (hd : Nat → Nat) (hZ9 : ho_Z Z hd) (hDi : ho_D hd) (hA : HA am hd S B fr0 (lnB B) ni) (hTk : ∀ x, x < 102 → B 20 x = 0) (hk5 : 6 < k) : MX (hc_π l D ks tl Z) (m_hc_trap k 1 6) 1 6 [.ref (am 0)] (gw K am ks N S) (fun r w => 0 < Lv ∧ r = none ∧ ∃ S9, w = gw K am ks N S9 ∧ EAQ hd (sp_S S 13 0) S9 (ru (Lv - 1)) ni Lv b15 b30 (fun a h => hof B fr0 (17 * a + h + 1))) (fun E w => w = gw K am ks N S ∧ E = "java/lang/IllegalStateException" ∧ Lv = 0) := by
  refine mx_of pl_hc rfl (Nat.le_of_ble_eq_true rfl) (ev_eq (lv' := [some (.ref (am 0))]) ?_)
  refine ev_aload_0 0 d_hc_trap_0 ?_
  refine gw_get 1 0 11 d_hc_trap_1 lk_hc_53 (h0.1.2 0 (by decide)) rfl (.int (nI Lv)) hL ?_
  refine ev_ifne 4 17 d_hc_trap_4 (fun c4 => ?_) (fun c4 => ?_)
  · have hLp : 0 < Lv := Nat.pos_of_ne_zero (fun z => c4 (by rw [z]; rfl))
    refine ev_aload_0 17 d_hc_trap_17 ?_
    refine gw_get 18 0 16 d_hc_trap_18 lk_hc_75 (h0.1.2 0 (by decide)) rfl (.ref (am 14)) h0.2.2.2.2.2.2.2.2.2.2.2.2.1 ?_
    refine ev_bipush (13) 21 d_hc_trap_21 (by decide) ?_
    refine ev_iconst_0 23 d_hc_trap_23 ?_
    refine gw_callV 24 14 [.int 13, .int 0] [] d_hc_trap_24 hZ (kc_hc_271 (k9 := 0) (mc9 := 0) (ms9 := 0)) (hr_of (by omega) (by decide) (by decide) (by decide)) (h0.1.2 14 (by decide)) rfl rfl (ht_tr_springs 13 0 h0.1.1 (h0.1.2 14 (by decide))) (fun r9 w9 hw => ?_)
    obtain ⟨x1, x2⟩ := hw
    subst x1
    subst x2
    refine ev_eq (st' := [.int 0]) (ws' := gw K am ks N (sp_S S 13 0)) ?_
    have kp0 : pkp 0 S (sp_S S 13 0) := ⟨fun k j _ _ h3 _ _ _ => sp_k h3, fun _ _ _ _ => rfl, rfl, fun _ _ => rfl⟩
    have w0 := h0.pk kp0
    have gL : (sp_S S 13 0).1 0 11 = .int (nI Lv) := by rw [sp_k (by decide)]; exact hL
    have gtop : (sp_S S 13 0).2.1 5 (Lv - 1) = nI (ru (Lv - 1)) := (hru (Lv - 1) (by omega)).1
    refine ev_pop_i 27 d_hc_trap_27 ?_
    refine ev_aload_0 28 d_hc_trap_28 ?_
    refine ev_aload_0 29 d_hc_trap_29 ?_
    refine gw_callV 30 0 [] [.ref (am 0)] d_hc_trap_30 hZ (kc_hc_203 (k9 := 5) (mc9 := 0) (ms9 := 0)) (hr_of (by omega) (by decide) (by decide) (by decide)) (w0.1.2 0 (by decide)) rfl rfl (ht_hc_top (w0.1.2 0 (by decide)) Lv gL hL6 (w0.1.2 5 (by decide)) w0.2.1.2.2.2.2.1 w0.2.2.2.2.2.2.1 hLp) (fun r9 w9 hw => ?_)
    obtain ⟨x1, x2⟩ := hw
    subst x1
    subst x2
    rw [gtop]
    refine ev_eq (st' := [.int (nI (ru (Lv - 1))), .ref (am 0)]) ?_
    refine gw_callV 33 0 [.int (nI (ru (Lv - 1)))] [] d_hc_trap_33 hZ (kc_hc_274 (k9 := 6) (mc9 := 0) (ms9 := 0)) (hr_of (by omega) (by decide) (by decide) (by decide)) (w0.1.2 0 (by decide)) rfl rfl (ht_hc_endAllCalls (ru (Lv - 1)) (s := b15) (b30 := b30) (ru := ru) (ho := fun a h => hof B fr0 (17 * a + h + 1)) hd hZ hZ9 hDi w0 gL hL6 (fun k9 hk9 => ⟨(hru k9 hk9).1, (hru k9 hk9).2, h30 k9 hk9⟩) (by rw [sp_k (by decide)]; exact e5) hn6 (fun a ha9 => ⟨(hins a ha9).1.pk (by omega) kp0, (hins a ha9).2, by rw [sp_k (by omega)]; exact h15 a ha9⟩) (fun a h ha9 hh => ⟨hof_lt _ _ _, by rw [sp_k (by omega)]; exact (hA a h ha9 hh).1⟩) (hru _ (by omega)).2 (by decide)) (fun r9 w9 hw => ?_)
    obtain ⟨x1, S2, x2, hEA⟩ := hw
    subst x1
    subst x2
    refine ev_eq (st' := []) ?_
    refine ev_pad 1 6 (by exact Nat.le_of_ble_eq_true rfl) (by exact Nat.le_of_ble_eq_true rfl) ?_
    refine ev_toX ?_
    refine ev_vret 36 d_hc_trap_36 rfl ?_
    exact ⟨hLp, rfl, S2, rfl, hEA⟩
  · have hL0 : Lv = 0 := (n_z (by omega)).mp c4
    refine gw_thr 7 d_hc_trap_7 d_hc_trap_10 d_hc_trap_11 d_hc_trap_13 d_hc_trap_16 hl hzx tm_196_97 xw_93_97 (by omega) (by exact Nat.le_of_ble_eq_true rfl) (by exact Nat.le_of_ble_eq_true rfl) (by exact Nat.le_of_ble_eq_true rfl) ?_
    exact ⟨rfl, rfl, hL0⟩
