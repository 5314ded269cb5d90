set_option maxHeartbeats 4000000 in
set_option maxRecDepth 100000 in
theorem ht_hc_passValue {l : Launch} {D : va_G} {tl : List (ClassId × FieldType)} {Z : (Nat → Prop) → State → Heap → Prop} {K : List Nat} {am : Nat → Nat} {ks : Nat → ClassId} {N : Nat → Nat} {S : gS} {k : Nat} (t : Nat) (u : Nat) (p : Int32) (J : Nat) {B : Nat → Nat → Int32} {i NT ni Lv hp : Nat} {ct dp : Nat → Nat} {pt : Nat → Nat → Nat} {sz al ru : Nat → Nat} {R : Nat → Nat → Prop} (hd : Nat → Nat) (hZ : ev_Zok Z) (hNw : hc_ZN Z) (hZ9 : ho_Z Z hd) (hDi : ho_D hd) (F : Nat → Nat → Int32) (hF : ∀ n, F n 54 = 0 ∧ F n 52 = 0) (hP : PH K am N hd S B i J NT ni Lv hp ct dp pt sz al ru R) (hR : R t u) (hk15 : 15 < k) : MT (hc_π l D ks tl Z) (m_hc_passValue k 2 9) 2 9 [.ref (am 0), .ref (am (100 + 3 * t)), .ref (am (100 + 3 * u)), .int p, .int (nI J)] (gw K am ks N S) (PVQ K am N hd ks S F B i J ni Lv (mo_ut hp (al u)) (sz u) (rd_i (B 4) ct i 5 t u p (-1) 0 0 B)) := by
  refine mt_of pl_hc rfl (Nat.le_of_ble_eq_true rfl) (ev_eq (lv' := [some (.ref (am 0)), some (.ref (am (100 + 3 * t))), some (.ref (am (100 + 3 * u))), some (.int p), some (.int (nI J)), none, none, none, none]) ?_)
  obtain ⟨⟨h0, h15, h16⟩, ⟨hLp, hL6, hL, hru, hri⟩, ⟨hni, hins⟩, hMe, ⟨hhp, h14, hp2⟩, hT, hC, hSz, hAl, hA, hTk, ⟨hJn, hiJ⟩, hfl⟩ := hP
  have hC0 := hC
  obtain ⟨⟨hin, hn6⟩, h8, hW, hD, hF9, hRN, hS9, hSS⟩ := hC
  obtain ⟨ht, hu⟩ := hRN t u hR
  have hNT := hW.1
  have hut := mo_ut_le hp (al u) (by have := (hSz.1 u hu).2.2.2.1; omega)
  have L88 : ∀ (L : List Nat) (am1 : Nat → Nat) (S1 : gS) (B1 : Nat → Nat → Int32) (fr : Nat → Bool) (ln : Nat → Int32) (c q : Int32) (cells slots : Nat), va_nd (K ++ L) = true → (∀ k, k ≠ 15 → k ≠ 16 → am1 k = am k) → pkp J S S1 → S1.1 14 0 = .int c → S1.1 14 1 = .int q → (∀ j, j < ni → me_R S1 B1 j) → HA am hd S1 B1 fr ln ni → PVf F B i J (mo_ut hp (al u)) (sz u) (rd_i (B 4) ct i 5 t u p (-1) 0 0 B) c q B1 fr → cells ≤ 2 → slots ≤ 9 → EV (hc_π l D ks tl Z) (m_hc_passValue k 2 9) (ev_E (hc_π l D ks tl Z) 2 9 (PVQ K am N hd ks S F B i J ni Lv (mo_ut hp (al u)) (sz u) (rd_i (B 4) ct i 5 t u p (-1) 0 0 B))) cells slots 88 [some (.ref (am1 0)), some (.ref (am1 (100 + 3 * t))), some (.ref (am1 (100 + 3 * u))), some (.int p), some (.int (nI J)), some (.ref (am1 (200 + 20 * i))), some (.ref (am1 (200 + 20 * J))), some (.int (-1)), none] [] (gw (K ++ L) am1 ks N S1) := by
    intro L am1 S1 B1 fr ln c q cells slots hnd ha kp1 t0 t1 hm1 hA1 hPf hc2 hs9
    have hK : ∀ k, k ∈ K → k ∈ K ++ L := fun k hk => List.mem_append_left _ hk
    have w0 := (h0.pk kp1).ka hnd hK ha
    have gL : S1.1 0 11 = .int (nI Lv) := by rw [kp1.1 0 11 (by decide) (by decide) (by decide) (by omega) (by omega) (by decide)]; exact hL
    have e5 : S1.2.1 5 = S.2.1 5 := kp1.2.1 5 (by decide) (by decide) (by omega)
    have gtop : S1.2.1 5 (Lv - 1) = nI i := by rw [e5, (hru (Lv - 1) (by omega)).1, hri]
    have g9 : ∀ a, a < ni → in_ok (K ++ L) am1 N S1 a ∧ S1.2.2.1 3 a = some (am1 (200 + 20 * a)) ∧ S1.1 (200 + 20 * a) 3 = .int (B 15 a) := fun a ha9 => by
      obtain ⟨z1, z2, z3⟩ := hins a ha9
      have g5 : ¬ gk (200 + 20 * a) = 4 := by rw [(gk_in a (by omega)).1]; decide
      refine ⟨(z1.pk (by omega) kp1).ka hK ha, by rw [kp1.2.2.1, ha _ (by omega) (by omega)]; exact z2, ?_⟩
      rw [kp1.1 _ 3 (by omega) (by omega) (by omega) (by omega) (by omega) g5]
      exact z3
    have gni : S1.1 0 5 = .int (nI ni) := by rw [kp1.1 0 5 (by decide) (by decide) (by decide) (by omega) (by omega) (by decide)]; exact hni
    refine ev_aload_0 88 d_hc_passValue_88 ?_
    refine gw_get 89 0 16 d_hc_passValue_89 lk_hc_75 (w0.1.2 0 (by decide)) rfl (.ref (am1 14)) w0.2.2.2.2.2.2.2.2.2.2.2.2.1 ?_
    refine gw_get 92 14 0 d_hc_passValue_92 lk_hc_282 (w0.1.2 14 (by decide)) rfl (.int c) t0 ?_
    refine ev_bipush (11) 95 d_hc_passValue_95 (by decide) ?_
    refine ev_icmpeq 97 112 d_hc_passValue_97 (fun c97 => ?_) (fun c97 => ?_)
    · refine ev_iconst_1 112 d_hc_passValue_112 ?_
      refine ev_goto 113 117 d_hc_passValue_113 ?_
      refine ev_istore_8 117 d_hc_passValue_117 ?_ (hn := by exact Nat.le_of_ble_eq_true rfl)
      refine ev_aload_0 119 d_hc_passValue_119 ?_
      refine ev_iload_8 120 d_hc_passValue_120 ?_
      refine ev_ifeq 122 130 d_hc_passValue_122 (fun c122 => ?_) (fun c122 => ?_)
      · exact absurd c122 (by decide)
      · refine ev_iload_4 125 d_hc_passValue_125 ?_
        refine ev_goto 127 134 d_hc_passValue_127 ?_
        refine gw_callV 134 0 [.int (nI J)] [] d_hc_passValue_134 hZ (kc_hc_274 (k9 := 6) (mc9 := 0) (ms9 := 0)) (hr_of (by omega) (by decide) (by omega) (by omega)) (w0.1.2 0 (by decide)) rfl rfl (ht_hc_endAllCalls J (s := B 15) (b30 := B 30) (ru := ru) (ho := fun a h => hof B1 fr (17 * a + h + 1)) hd hZ hZ9 hDi w0 gL hL6 (fun k9 hk9 => by rw [e5]; exact hru k9 hk9) gni hn6 g9 (fun a h ha9 hh => ⟨hof_lt _ _ _, (hA1 a h ha9 hh).1⟩) (by omega) (by decide)) (fun r9 w9 hw => ?_)
        obtain ⟨x1, S2, x2, hEA⟩ := hw
        subst x1
        subst x2
        refine ev_eq (st' := []) ?_
        refine ev_pad 2 9 (by omega) (by omega) ?_
        refine gw_drop L ?_
        refine ev_eq (ws' := gw K am ks N S2) ?_ (h3 := gw_congr (fun k9 hk9 => ⟨ha k9 (fun z => h15 (z ▸ hk9)) (fun z => h16 (z ▸ hk9)), rfl⟩))
        refine ev_iconst_m1 137 d_hc_passValue_137 ?_
        refine ev_iret 138 d_hc_passValue_138 rfl ?_
        exact ⟨S2, rfl, Or.inl ⟨rfl, S1, B1, fr, ln, c, q, J, kp1, hEA, t0, t1, hm1, hA1, fun _ => rfl, fun z => absurd (Or.inl c97) z, hPf⟩⟩
    · refine ev_aload_0 100 d_hc_passValue_100 ?_
      refine gw_get 101 0 16 d_hc_passValue_101 lk_hc_75 (w0.1.2 0 (by decide)) rfl (.ref (am1 14)) w0.2.2.2.2.2.2.2.2.2.2.2.2.1 ?_
      refine gw_get 104 14 0 d_hc_passValue_104 lk_hc_282 (w0.1.2 14 (by decide)) rfl (.int c) t0 ?_
      refine ev_bipush (12) 107 d_hc_passValue_107 (by decide) ?_
      refine ev_icmpne 109 116 d_hc_passValue_109 (fun c109 => ?_) (fun c109 => ?_)
      · refine ev_iconst_0 116 d_hc_passValue_116 ?_
        refine ev_istore_8 117 d_hc_passValue_117 ?_ (hn := by exact Nat.le_of_ble_eq_true rfl)
        refine ev_aload_0 119 d_hc_passValue_119 ?_
        refine ev_iload_8 120 d_hc_passValue_120 ?_
        refine ev_ifeq 122 130 d_hc_passValue_122 (fun c122 => ?_) (fun c122 => ?_)
        · refine ev_aload_0 130 d_hc_passValue_130 ?_
          refine gw_callV 131 0 [] [.ref (am1 0)] d_hc_passValue_131 hZ (kc_hc_203 (k9 := 5) (mc9 := 0) (ms9 := 0)) (hr_of (by omega) (by decide) (by omega) (by omega)) (w0.1.2 0 (by decide)) rfl rfl (ht_hc_top (w0.1.2 0 (by decide)) Lv gL hL6 (w0.1.2 5 (by decide)) w0.2.1.2.2.2.2.1 w0.2.2.2.2.2.2.1 hLp) (fun r9 w9 hw => ?_)
          obtain ⟨x1, x2⟩ := hw
          subst x1
          subst x2
          rw [gtop]
          refine ev_eq (st' := [.int (nI i), .ref (am1 0)]) ?_
          refine gw_callV 134 0 [.int (nI i)] [] d_hc_passValue_134 hZ (kc_hc_274 (k9 := 6) (mc9 := 0) (ms9 := 0)) (hr_of (by omega) (by decide) (by omega) (by omega)) (w0.1.2 0 (by decide)) rfl rfl (ht_hc_endAllCalls i (s := B 15) (b30 := B 30) (ru := ru) (ho := fun a h => hof B1 fr (17 * a + h + 1)) hd hZ hZ9 hDi w0 gL hL6 (fun k9 hk9 => by rw [e5]; exact hru k9 hk9) gni hn6 g9 (fun a h ha9 hh => ⟨hof_lt _ _ _, (hA1 a h ha9 hh).1⟩) (by omega) (by decide)) (fun r9 w9 hw => ?_)
          obtain ⟨x1, S2, x2, hEA⟩ := hw
          subst x1
          subst x2
          refine ev_eq (st' := []) ?_
          refine ev_pad 2 9 (by omega) (by omega) ?_
          refine gw_drop L ?_
          refine ev_eq (ws' := gw K am ks N S2) ?_ (h3 := gw_congr (fun k9 hk9 => ⟨ha k9 (fun z => h15 (z ▸ hk9)) (fun z => h16 (z ▸ hk9)), rfl⟩))
          refine ev_iconst_m1 137 d_hc_passValue_137 ?_
          refine ev_iret 138 d_hc_passValue_138 rfl ?_
          exact ⟨S2, rfl, Or.inl ⟨rfl, S1, B1, fr, ln, c, q, i, kp1, hEA, t0, t1, hm1, hA1, fun z => absurd z (fun y => y.elim c97 c109), fun _ => rfl, hPf⟩⟩
        · exact absurd rfl c122
      · refine ev_iconst_1 112 d_hc_passValue_112 ?_
        refine ev_goto 113 117 d_hc_passValue_113 ?_
        refine ev_istore_8 117 d_hc_passValue_117 ?_ (hn := by exact Nat.le_of_ble_eq_true rfl)
        refine ev_aload_0 119 d_hc_passValue_119 ?_
        refine ev_iload_8 120 d_hc_passValue_120 ?_
        refine ev_ifeq 122 130 d_hc_passValue_122 (fun c122 => ?_) (fun c122 => ?_)
        · exact absurd c122 (by decide)
        · refine ev_iload_4 125 d_hc_passValue_125 ?_
          refine ev_goto 127 134 d_hc_passValue_127 ?_
          refine gw_callV 134 0 [.int (nI J)] [] d_hc_passValue_134 hZ (kc_hc_274 (k9 := 6) (mc9 := 0) (ms9 := 0)) (hr_of (by omega) (by decide) (by omega) (by omega)) (w0.1.2 0 (by decide)) rfl rfl (ht_hc_endAllCalls J (s := B 15) (b30 := B 30) (ru := ru) (ho := fun a h => hof B1 fr (17 * a + h + 1)) hd hZ hZ9 hDi w0 gL hL6 (fun k9 hk9 => by rw [e5]; exact hru k9 hk9) gni hn6 g9 (fun a h ha9 hh => ⟨hof_lt _ _ _, (hA1 a h ha9 hh).1⟩) (by omega) (by decide)) (fun r9 w9 hw => ?_)
          obtain ⟨x1, S2, x2, hEA⟩ := hw
          subst x1
          subst x2
          refine ev_eq (st' := []) ?_
          refine ev_pad 2 9 (by omega) (by omega) ?_
          refine gw_drop L ?_
          refine ev_eq (ws' := gw K am ks N S2) ?_ (h3 := gw_congr (fun k9 hk9 => ⟨ha k9 (fun z => h15 (z ▸ hk9)) (fun z => h16 (z ▸ hk9)), rfl⟩))
          refine ev_iconst_m1 137 d_hc_passValue_137 ?_
          refine ev_iret 138 d_hc_passValue_138 rfl ?_
          exact ⟨S2, rfl, Or.inl ⟨rfl, S1, B1, fr, ln, c, q, J, kp1, hEA, t0, t1, hm1, hA1, fun _ => rfl, fun z => absurd (Or.inr c109) z, hPf⟩⟩
  have L139 : ∀ (L : List Nat) (am1 : Nat → Nat) (S1 : gS) (q : Nat × (Nat → Nat → Int32)) (cells slots : Nat), va_nd (K ++ L) = true → (∀ k, k ≠ 15 → k ≠ 16 → am1 k = am k) → pkp J S S1 → S1.1 14 = S.1 14 → rd_i (B 4) ct i 5 t u p (-1) 0 0 B = .inr q → (mo_ut hp (al u)) + sz u ≤ 256 → (PVw F i J (mo_ut hp (al u)) (sz u) q).1 54 = 0 → WM am hd S1 q.2 (PVw F i J (mo_ut hp (al u)) (sz u) q).2 i J ni → cells ≤ 2 → slots ≤ 9 → EV (hc_π l D ks tl Z) (m_hc_passValue k 2 9) (ev_E (hc_π l D ks tl Z) 2 9 (PVQ K am N hd ks S F B i J ni Lv (mo_ut hp (al u)) (sz u) (rd_i (B 4) ct i 5 t u p (-1) 0 0 B))) cells slots 139 [some (.ref (am1 0)), some (.ref (am1 (100 + 3 * t))), some (.ref (am1 (100 + 3 * u))), some (.int p), some (.int (nI J)), some (.ref (am1 (200 + 20 * i))), some (.ref (am1 (200 + 20 * J))), some (.int (nI (mo_ut hp (al u)))), none] [] (gw (K ++ L) am1 ks N S1) := by
    intro L am1 S1 q cells slots hnd ha kp1 t14 hx hle hw0 hWM hc2 hs9
    have hK : ∀ k, k ∈ K → k ∈ K ++ L := fun k hk => List.mem_append_left _ hk
    have okI := ((hins i hin).1.pk (by omega) kp1).ka hK ha
    have okJ := ((hins J hJn).1.pk (by omega) kp1).ka hK ha
    have k1 : hkp S1 (hh_ch S1 hd (fun h => hof (PVw F i J (mo_ut hp (al u)) (sz u) q).2 (frB q.2 (PVw F i J (mo_ut hp (al u)) (sz u) q).2) (17 * i + h + 1)) i 3 0 16) := hh_ch_k (by omega) 16 (Nat.le_refl _)
    refine ev_aload_5 139 d_hc_passValue_139 ?_
    refine ev_gets (v := .ref (hd 3)) 141 d_hc_passValue_141 (fun A s z => hZ9 A s z 3) ls_hc_349 ?_
    refine ev_gets (v := .ref (hd 0)) 144 d_hc_passValue_144 (fun A s z => hZ9 A s z 0) ls_hc_325 ?_
    refine gw_callV 147 (200 + 20 * i) [.ref (hd 3), .ref (hd 0)] [] d_hc_passValue_147 hZ (kc_hc_352 (k9 := 0) (mc9 := 0) (ms9 := 0)) (hr_of (by omega) (by decide) (by omega) (by omega)) okI.1 (gk_in i (by omega)).1 rfl (ht_in_changeHoldings hd i 3 0 hZ9 hDi (by omega) okI (fun h => hof (PVw F i J (mo_ut hp (al u)) (sz u) q).2 (frB q.2 (PVw F i J (mo_ut hp (al u)) (sz u) q).2) (17 * i + h + 1)) (fun h hh => ⟨hof_lt _ _ _, (hWM.2.2.1 i h hin hh).1⟩) hnd (by decide)) (fun r9 w9 hw => ?_)
    obtain ⟨x1, x2⟩ := hw
    subst x1
    subst x2
    refine ev_eq (st' := []) ?_
    refine ev_aload_6 150 d_hc_passValue_150 ?_
    refine ev_gets (v := .ref (hd 4)) 152 d_hc_passValue_152 (fun A s z => hZ9 A s z 4) ls_hc_356 ?_
    refine ev_gets (v := .ref (hd 1)) 155 d_hc_passValue_155 (fun A s z => hZ9 A s z 1) ls_hc_216 ?_
    refine gw_callV 158 (200 + 20 * J) [.ref (hd 4), .ref (hd 1)] [] d_hc_passValue_158 hZ (kc_hc_352 (k9 := 0) (mc9 := 0) (ms9 := 0)) (hr_of (by omega) (by decide) (by omega) (by omega)) (okJ.hk k1).1 (gk_in J (by omega)).1 rfl (ht_in_changeHoldings hd J 4 1 hZ9 hDi (by omega) (okJ.hk k1) (fun h => hof (PVw F i J (mo_ut hp (al u)) (sz u) q).2 (frB q.2 (PVw F i J (mo_ut hp (al u)) (sz u) q).2) (17 * J + h + 1)) (fun h hh => ⟨hof_lt _ _ _, by rw [hh_ch_1 S1 hd (fun h => hof (PVw F i J (mo_ut hp (al u)) (sz u) q).2 (frB q.2 (PVw F i J (mo_ut hp (al u)) (sz u) q).2) (17 * i + h + 1)) i 3 0 16 (Or.inr (fun h9 hh9 => by omega))]; exact (hWM.2.2.1 J h hJn hh).1⟩) hnd (by decide)) (fun r9 w9 hw => ?_)
    obtain ⟨x1, x2⟩ := hw
    subst x1
    subst x2
    refine ev_eq (st' := []) ?_
    refine ev_pad 2 9 (by omega) (by omega) ?_
    refine gw_drop L ?_
    refine ev_eq (ws' := gw K am ks N (hh_ch (hh_ch S1 hd (fun h => hof (PVw F i J (mo_ut hp (al u)) (sz u) q).2 (frB q.2 (PVw F i J (mo_ut hp (al u)) (sz u) q).2) (17 * i + h + 1)) i 3 0 16) hd (fun h => hof (PVw F i J (mo_ut hp (al u)) (sz u) q).2 (frB q.2 (PVw F i J (mo_ut hp (al u)) (sz u) q).2) (17 * J + h + 1)) J 4 1 16)) ?_ (h3 := gw_congr (fun k9 hk9 => ⟨ha k9 (fun z => h15 (z ▸ hk9)) (fun z => h16 (z ▸ hk9)), rfl⟩))
    refine ev_iload_7 161 d_hc_passValue_161 ?_
    refine ev_iret 163 d_hc_passValue_163 rfl ?_
    exact ⟨_, rfl, Or.inr ⟨rfl, q, S1, hx, hle, hw0, kp1, t14, hWM, rfl⟩⟩
  have w0 := h0
  have gL := hL
  have gtop : S.2.1 5 (Lv - 1) = nI i := by rw [(hru (Lv - 1) (by omega)).1, hri]
  refine ev_aload_0 0 d_hc_passValue_0 ?_
  refine gw_get 1 0 4 d_hc_passValue_1 lk_hc_27 (w0.1.2 0 (by decide)) rfl (.ref (am 3)) w0.2.2.2.2.1 ?_
  refine ev_aload_0 4 d_hc_passValue_4 ?_
  refine gw_callV 5 0 [] [.ref (am 3)] d_hc_passValue_5 hZ (kc_hc_203 (k9 := 5) (mc9 := 0) (ms9 := 0)) (hr_of (by omega) (by decide) (by omega) (by omega)) (w0.1.2 0 (by decide)) rfl rfl (ht_hc_top (w0.1.2 0 (by decide)) Lv gL hL6 (w0.1.2 5 (by decide)) w0.2.1.2.2.2.2.1 w0.2.2.2.2.2.2.1 hLp) (fun r9 w9 hw => ?_)
  obtain ⟨x1, x2⟩ := hw
  subst x1
  subst x2
  rw [gtop]
  refine ev_eq (st' := [.int (nI i), .ref (am 3)]) ?_
  refine gw_qld (j := i) 8 3 d_hc_passValue_8 (w0.1.2 3 (by decide)) rfl (by rw [w0.2.1.2.2.1]; omega) (by rw [w0.2.1.2.2.1]; decide) _ (hins i hin).2.1 ?_
  refine ev_astore_5 9 d_hc_passValue_9 ?_ (hn := by exact Nat.le_of_ble_eq_true rfl)
  refine ev_aload_0 11 d_hc_passValue_11 ?_
  refine gw_get 12 0 4 d_hc_passValue_12 lk_hc_27 (w0.1.2 0 (by decide)) rfl (.ref (am 3)) w0.2.2.2.2.1 ?_
  refine ev_iload_4 15 d_hc_passValue_15 ?_
  refine gw_qld (j := J) 17 3 d_hc_passValue_17 (w0.1.2 3 (by decide)) rfl (by rw [w0.2.1.2.2.1]; omega) (by rw [w0.2.1.2.2.1]; decide) _ (hins J hJn).2.1 ?_
  refine ev_astore_6 18 d_hc_passValue_18 ?_ (hn := by exact Nat.le_of_ble_eq_true rfl)
  refine ev_iconst_m1 20 d_hc_passValue_20 ?_
  refine ev_istore_7 21 d_hc_passValue_21 ?_ (hn := by exact Nat.le_of_ble_eq_true rfl)
  refine ev_aload_0 23 d_hc_passValue_23 ?_
  refine gw_get 24 0 15 d_hc_passValue_24 lk_hc_68 (w0.1.2 0 (by decide)) rfl (.ref (am 10)) w0.2.2.2.2.2.2.2.2.2.2.2.1 ?_
  refine ev_iconst_0 27 d_hc_passValue_27 ?_
  refine gw_put 28 10 3 d_hc_passValue_28 lp_hc_328 h0.1.1 (h0.1.2 10 (by decide)) rfl (vp_nar_int _) rfl ?_
  refine gw_newO (c := 7) (C := R_re) (T := T_re) (ty := t_re) 31 15 d_hc_passValue_31 hu_re t_re_ok cw_hc_331 iw_re nw_re rfl h15 rfl (Nat.le_of_ble_eq_true rfl) (Nat.le_of_ble_eq_true rfl) (fun q1 => ?_)
  obtain ⟨am1, hm1⟩ : ∃ am1, am1 = va_up am 15 q1 := ⟨_, rfl⟩
  rw [← hm1]
  have ha1 : ∀ k, k ≠ 15 → k ≠ 16 → am1 k = am k := fun k hk _ => by rw [hm1, va_up_ne _ _ hk]
  have hnd1 : va_nd (K ++ [15]) = true := nd_app h0.1.1 h15
  have hK1 : ∀ k, k ∈ K → k ∈ K ++ [15] := fun k hk => List.mem_append_left _ hk
  have h15K : 15 ∈ K ++ [15] := List.mem_append_right _ List.mem_cons_self
  have kp1 : pkp J S (gsO (gsG S 10 3 (.int 0)) 15 (fun j => defaultValue (t_re j))) := ((pkp.rf J S).g (Or.inr (Or.inr ⟨rfl, rfl⟩))).o (Or.inl rfl)
  have w0 := (h0.pk kp1).ka hnd1 hK1 ha1
  refine ev_eq (lv' := [some (.ref (am1 0)), some (.ref (am1 (100 + 3 * t))), some (.ref (am1 (100 + 3 * u))), some (.int p), some (.int (nI J)), some (.ref (am1 (200 + 20 * i))), some (.ref (am1 (200 + 20 * J))), some (.int (-1)), none]) (st' := [.ref (am1 15)]) ?_ (h1 := by rw [ha1 0 (by decide) (by decide), ha1 (100 + 3 * t) (by omega) (by omega), ha1 (100 + 3 * u) (by omega) (by omega), ha1 (200 + 20 * i) (by omega) (by omega), ha1 (200 + 20 * J) (by omega) (by omega)]) (h2 := by rw [hm1, va_up_self])
  refine ev_dup_a 34 d_hc_passValue_34 ?_
  refine ev_aload_5 35 d_hc_passValue_35 ?_
  refine ev_aload_0 37 d_hc_passValue_37 ?_
  refine gw_get 38 0 15 d_hc_passValue_38 lk_hc_68 (w0.1.2 0 (by decide)) rfl (.ref (am1 10)) w0.2.2.2.2.2.2.2.2.2.2.2.1 ?_
  refine ev_aload_0 41 d_hc_passValue_41 ?_
  refine gw_get 42 0 16 d_hc_passValue_42 lk_hc_75 (w0.1.2 0 (by decide)) rfl (.ref (am1 14)) w0.2.2.2.2.2.2.2.2.2.2.2.2.1 ?_
  refine ev_callI 45 [.ref (am1 (200 + 20 * i)), .ref (am1 10), .ref (am1 14)] [.ref (am1 15)] d_hc_passValue_45 hZ (kc_hc_333 (k9 := 1) (mc9 := 0) (ms9 := 0)) (hr_of (by omega) (by decide) (by decide) (by decide)) (ht_re_init _ _ _ hnd1 h15K (by decide)) (fun r9 w9 hw => ?_)
  obtain ⟨x1, x2⟩ := hw
  subst x1
  subst x2
  refine ev_eq (st' := [.ref (am1 15)]) ?_
  have kp2 : pkp J S (gsG (gsG (gsG (gsG (gsO (gsG S 10 3 (.int 0)) 15 (fun j => defaultValue (t_re j))) 15 3 (.long 0)) 15 0 (.ref (am1 (200 + 20 * i)))) 15 1 (.ref (am1 10))) 15 2 (.ref (am1 14))) := (((kp1.g (Or.inl rfl)).g (Or.inl rfl)).g (Or.inl rfl)).g (Or.inl rfl)
  have w0 := (h0.pk kp2).ka hnd1 hK1 ha1
  have s2 : ∀ k j, k ≠ 15 → ¬ (k = 10 ∧ j = 3) → (gsG (gsG (gsG (gsG (gsO (gsG S 10 3 (.int 0)) 15 (fun j => defaultValue (t_re j))) 15 3 (.long 0)) 15 0 (.ref (am1 (200 + 20 * i)))) 15 1 (.ref (am1 10))) 15 2 (.ref (am1 14))).1 k j = S.1 k j := fun k j h1 h2 => by
    rw [gsG_nj (Or.inl h1), gsG_nj (Or.inl h1), gsG_nj (Or.inl h1), gsG_nj (Or.inl h1)]
    show va_up (gsG S 10 3 (.int 0)).1 15 _ k j = _
    rw [va_up_ne _ _ h1, gsG_nj (by by_cases e : k = 10 <;> omega)]
  have e14 : (gsG (gsG (gsG (gsG (gsO (gsG S 10 3 (.int 0)) 15 (fun j => defaultValue (t_re j))) 15 3 (.long 0)) 15 0 (.ref (am1 (200 + 20 * i)))) 15 1 (.ref (am1 10))) 15 2 (.ref (am1 14))).1 14 = S.1 14 := funext (fun j => s2 14 j (by decide) (by omega))
  have RS0 : RS (K ++ [15]) am1 N hd (gsG (gsG (gsG (gsG (gsO (gsG S 10 3 (.int 0)) 15 (fun j => defaultValue (t_re j))) 15 3 (.long 0)) 15 0 (.ref (am1 (200 + 20 * i)))) 15 1 (.ref (am1 10))) 15 2 (.ref (am1 14))) B B i NT ni ct pt 0 := by
    refine ⟨⟨⟨hnd1, fun k h1 h2 => by
      by_cases e : k = 15
      · subst e; exact h15K
      · exact hK1 k (h0.1.2 k (by omega))⟩, ⟨h0.2.1.2.2.2.2.2.2.2.2.2.1, h0.2.1.2.2.2.2.2.2.2.2.2.2.1, h0.2.1.2.2.2.2.2.2.2.2.2.2.2⟩, ⟨?_, ?_, ?_⟩, ⟨w0.2.2.2.2.2.2.2.2.2.2.2.2.2.1, w0.2.2.2.2.2.2.2.2.2.2.2.2.2.2.1, w0.2.2.2.2.2.2.2.2.2.2.2.2.2.2.2⟩, ((hins i hin).1.pk (by omega) kp2).ka hK1 ha1, by omega⟩, (hT.pk kp2).ka hK1 ha1, hMe i hin, mo_sc.rf B, ?_, Nat.zero_le _, fun k hk => absurd hk (Nat.not_lt_zero k), (hA.s hn6 (fun k j hg => s2 k j (fun z => by rw [z] at hg; exact absurd hg (by decide)) (fun z => by rw [z.1] at hg; exact absurd hg (by decide)))).am ha1⟩
    · rw [gsG_nj (Or.inr (by decide)), gsG_nj (Or.inr (by decide))]; exact gsG_eq _ _ _ _
    · rw [gsG_nj (Or.inr (by decide))]; exact gsG_eq _ _ _ _
    · exact gsG_eq _ _ _ _
    · rw [gsG_nj (Or.inl (by decide)), gsG_nj (Or.inl (by decide)), gsG_nj (Or.inl (by decide)), gsG_nj (Or.inl (by decide))]
      show va_up (gsG S 10 3 (.int 0)).1 15 (fun j => defaultValue (t_re j)) 10 3 = _
      rw [va_up_ne _ _ (by decide)]
      exact gsG_eq _ _ _ _
  refine ev_aload_1 48 d_hc_passValue_48 ?_
  refine ev_aload_2 49 d_hc_passValue_49 ?_
  refine ev_iload_3 50 d_hc_passValue_50 ?_
  refine gw_callVN 51 15 [.ref (am1 (100 + 3 * t)), .ref (am1 (100 + 3 * u)), .int p] [] d_hc_passValue_51 hZ (kn_hc_336 (k9 := 14) (mc9 := 0) (ms9 := 0) hNw) (hr_of (by omega) (by decide) (by decide) (by decide)) h15K rfl rfl (ht_re_readsItem hd hZ hNw hZ9 hDi hC0 5 t u p (-1) 0 0 B (gsG (gsG (gsG (gsG (gsO (gsG S 10 3 (.int 0)) 15 (fun j => defaultValue (t_re j))) 15 3 (.long 0)) 15 0 (.ref (am1 (200 + 20 * i)))) 15 1 (.ref (am1 10))) 15 2 (.ref (am1 14))) (hW.2.1 t ht).2.2.2 hR RS0) (fun r9 w9 hw => ?_)
  obtain ⟨y, S3, x1, x2, hb⟩ := hw
  subst x1
  subst x2
  refine ev_eq (st' := [.int y]) ?_
  refine ev_ifeq 54 82 d_hc_passValue_54 (fun c54 => ?_) (fun c54 => ?_)
  · obtain ⟨e, hx, g1, g2, g3, B1, g4, g5⟩ : ∃ e, rd_i (B 4) ct i 5 t u p (-1) 0 0 B = .inl e ∧ rkp (gsG (gsG (gsG (gsG (gsO (gsG S 10 3 (.int 0)) 15 (fun j => defaultValue (t_re j))) 15 3 (.long 0)) 15 0 (.ref (am1 (200 + 20 * i)))) 15 1 (.ref (am1 10))) 15 2 (.ref (am1 14))) S3 ∧ S3.1 14 0 = .int e.1 ∧ S3.1 14 1 = .int e.2 ∧ ∃ B1, mo_sc B B1 ∧ HA am1 hd S3 B1 fr0 (lnB B1) ni := by
      rcases hb with ⟨e, hq, -, h9⟩ | ⟨q, -, ey, -⟩
      · exact ⟨e, hq, h9⟩
      · exact absurd (ey.symm.trans c54) (by decide)
    have hL88 := L88 [15] am1 S3 B1 fr0 (lnB B1) e.1 e.2 1 4 hnd1 ha1 (kp2.tr g1.pk) g2 g3 (fun j hj a ha => by rw [g1.2.1 _ (by omega) (by omega), g4 13 (by decide) (by decide) (by decide) (by decide)]; exact hMe j hj a ha) (g5.am (fun k h1 h2 => (ha1 k h1 h2).symm)) (Or.inl ⟨hx, g4, rfl⟩) (by decide) (by decide)
    refine ev_iload_7 82 d_hc_passValue_82 ?_
    refine ev_iconst_m1 84 d_hc_passValue_84 ?_
    refine ev_icmpne 85 139 d_hc_passValue_85 (fun c85 => ?_) (fun c85 => ?_)
    · exact absurd rfl c85
    · exact ev_eq hL88
  · obtain ⟨q, hx, hst, hRS⟩ : ∃ q, rd_i (B 4) ct i 5 t u p (-1) 0 0 B = .inr q ∧ st_k (gsG (gsG (gsG (gsG (gsO (gsG S 10 3 (.int 0)) 15 (fun j => defaultValue (t_re j))) 15 3 (.long 0)) 15 0 (.ref (am1 (200 + 20 * i)))) 15 1 (.ref (am1 10))) 15 2 (.ref (am1 14))) B 0 S3 q.2 q.1 ∧ RS (K ++ [15]) am1 N hd S3 B q.2 i NT ni ct pt q.1 := by
      rcases hb with ⟨e, -, ey, -⟩ | ⟨q, hq, -, h1, h2⟩
      · exact absurd ey c54
      · exact ⟨q, hq, h1, h2⟩
    have h16K1 : 16 ∉ K ++ [15] := fun z => (List.mem_append.mp z).elim h16 (fun y => by rw [List.mem_singleton] at y; exact absurd y (by decide))
    have kp3 : pkp J S S3 := kp2.tr hst.1.pk
    have w0 := (h0.pk kp3).ka hnd1 hK1 ha1
    refine gw_newO (c := 8) (C := R_wt) (T := T_wt) (ty := t_wt) 57 16 d_hc_passValue_57 hu_wt t_wt_ok cw_hc_340 iw_wt nw_wt rfl h16K1 rfl (Nat.le_of_ble_eq_true rfl) (Nat.le_of_ble_eq_true rfl) (fun q2 => ?_)
    obtain ⟨am2, hm2⟩ : ∃ am2, am2 = va_up am1 16 q2 := ⟨_, rfl⟩
    rw [← hm2]
    have ha2 : ∀ k, k ≠ 15 → k ≠ 16 → am2 k = am k := fun k hk hk2 => by rw [hm2, va_up_ne _ _ hk2]; exact ha1 k hk hk2
    have eL : K ++ [15] ++ [16] = K ++ [15, 16] := by rw [List.append_assoc]; rfl
    rw [eL]
    have hnd2 : va_nd (K ++ [15, 16]) = true := by rw [← eL]; exact nd_app hnd1 h16K1
    have hK2 : ∀ k, k ∈ K → k ∈ K ++ [15, 16] := fun k hk => List.mem_append_left _ hk
    have h16K : 16 ∈ K ++ [15, 16] := List.mem_append_right _ (List.mem_cons_of_mem _ List.mem_cons_self)
    have kp4 : pkp J S (gsO S3 16 (fun j => defaultValue (t_wt j))) := kp3.o (Or.inr rfl)
    have w0 := (h0.pk kp4).ka hnd2 hK2 ha2
    refine ev_eq (lv' := [some (.ref (am2 0)), some (.ref (am2 (100 + 3 * t))), some (.ref (am2 (100 + 3 * u))), some (.int p), some (.int (nI J)), some (.ref (am2 (200 + 20 * i))), some (.ref (am2 (200 + 20 * J))), some (.int (-1)), none]) (st' := [.ref (am2 16)]) ?_ (h1 := by rw [ha1 0 (by decide) (by decide), ha1 (100 + 3 * t) (by omega) (by omega), ha1 (100 + 3 * u) (by omega) (by omega), ha1 (200 + 20 * i) (by omega) (by omega), ha1 (200 + 20 * J) (by omega) (by omega), ha2 0 (by decide) (by decide), ha2 (100 + 3 * t) (by omega) (by omega), ha2 (100 + 3 * u) (by omega) (by omega), ha2 (200 + 20 * i) (by omega) (by omega), ha2 (200 + 20 * J) (by omega) (by omega)]) (h2 := by rw [hm2, va_up_self])
    refine ev_dup_a 60 d_hc_passValue_60 ?_
    refine ev_aload_5 61 d_hc_passValue_61 ?_
    refine ev_aload_6 63 d_hc_passValue_63 ?_
    refine ev_aload_0 65 d_hc_passValue_65 ?_
    refine gw_get 66 0 15 d_hc_passValue_66 lk_hc_68 (w0.1.2 0 (by decide)) rfl (.ref (am2 10)) w0.2.2.2.2.2.2.2.2.2.2.2.1 ?_
    refine ev_aload_0 69 d_hc_passValue_69 ?_
    refine gw_get 70 0 16 d_hc_passValue_70 lk_hc_75 (w0.1.2 0 (by decide)) rfl (.ref (am2 14)) w0.2.2.2.2.2.2.2.2.2.2.2.2.1 ?_
    refine ev_callI 73 [.ref (am2 (200 + 20 * i)), .ref (am2 (200 + 20 * J)), .ref (am2 10), .ref (am2 14)] [.ref (am2 16)] d_hc_passValue_73 hZ (kc_hc_342 (k9 := 1) (mc9 := 0) (ms9 := 0)) (hr_of (by omega) (by decide) (by decide) (by decide)) (ht_wt_init _ _ _ _ hnd2 h16K (by decide)) (fun r9 w9 hw => ?_)
    obtain ⟨x1, x2⟩ := hw
    subst x1
    subst x2
    refine ev_eq (st' := [.ref (am2 16)]) ?_
    have kp5 : pkp J S (gsG (gsG (gsG (gsG (gsG (gsO S3 16 (fun j => defaultValue (t_wt j))) 16 4 (.int 0)) 16 0 (.ref (am2 (200 + 20 * i)))) 16 1 (.ref (am2 (200 + 20 * J)))) 16 2 (.ref (am2 10))) 16 3 (.ref (am2 14))) := ((((kp4.g (Or.inr (Or.inl rfl))).g (Or.inr (Or.inl rfl))).g (Or.inr (Or.inl rfl))).g (Or.inr (Or.inl rfl))).g (Or.inr (Or.inl rfl))
    have w0 := (h0.pk kp5).ka hnd2 hK2 ha2
    have s5 : ∀ k j, k ≠ 16 → (gsG (gsG (gsG (gsG (gsG (gsO S3 16 (fun j => defaultValue (t_wt j))) 16 4 (.int 0)) 16 0 (.ref (am2 (200 + 20 * i)))) 16 1 (.ref (am2 (200 + 20 * J)))) 16 2 (.ref (am2 10))) 16 3 (.ref (am2 14))).1 k j = S3.1 k j := fun k j h1 => by
      rw [gsG_nj (Or.inl h1), gsG_nj (Or.inl h1), gsG_nj (Or.inl h1), gsG_nj (Or.inl h1), gsG_nj (Or.inl h1)]
      show va_up S3.1 16 _ k j = _
      rw [va_up_ne _ _ h1]
    obtain ⟨-, -, -, gsc, -, gn200, gI, gA⟩ := hRS
    obtain ⟨t1, t2, t3, t4, t5, t6, t7, t8, t9⟩ := rd_tree hC0 5 t u p (-1) 0 0 B q (hW.2.1 t ht).2.2.2 hR (mo_sc.rf B) (Nat.zero_le _) (fun x hx9 => by rw [(hTk x hx9).2]; rfl) hx
    have hex : rd_e (B 4) ct i 5 (nI t, nI u, 1, p, -1, 0) 0 B = .inr q := (rd_e1 (by omega) (by omega)).trans hx
    obtain ⟨-, u44, -, -, -, -, uit⟩ := rd_it0 hW hD hF9 hSz h8 (by omega) ht hu hR hex
    have gf : ∀ f, f ≠ 20 → f ≠ 21 → (f < 37 ∨ 42 < f) → (f < 44 ∨ 51 < f) → q.2 f = B f := gsc
    have q13 : q.2 13 = B 13 := gf 13 (by decide) (by decide) (by decide) (by decide)
    have hWC : WC q.2 i J NT ni q.1 ct dp pt sz al := by
      refine ⟨⟨hin, hJn, hn6, hiJ⟩, fun j hj => by rw [q13]; exact h8 j hj, hW.co (gf 7 (by decide) (by decide) (by decide) (by decide)) (gf 8 (by decide) (by decide) (by decide) (by decide)), ?_, ?_, hAl, gn200, uit, fun x x1 x2 x3 => ?_⟩
      · unfold ty_rd; rw [gf 5 (by decide) (by decide) (by decide) (by decide), gf 2 (by decide) (by decide) (by decide) (by decide), gf 4 (by decide) (by decide) (by decide) (by decide)]; exact hD
      · unfold ty_sz; rw [gf 2 (by decide) (by decide) (by decide) (by decide), gf 4 (by decide) (by decide) (by decide) (by decide), gf 5 (by decide) (by decide) (by decide) (by decide), gf 9 (by decide) (by decide) (by decide) (by decide)]; exact hSz
      · rw [gf 16 (by decide) (by decide) (by decide) (by decide)] at x3
        rw [lnB, mo_ln_c (gf 16 (by decide) (by decide) (by decide) (by decide)) (gf 18 (by decide) (by decide) (by decide) (by decide)) (gf 19 (by decide) (by decide) (by decide) (by decide)), (t9 x (by omega)).2]
        exact hfl x x1 x2 x3
    have hWW : ww (K ++ [15, 16]) am2 N (gsG (gsG (gsG (gsG (gsG (gsO S3 16 (fun j => defaultValue (t_wt j))) 16 4 (.int 0)) 16 0 (.ref (am2 (200 + 20 * i)))) 16 1 (.ref (am2 (200 + 20 * J)))) 16 2 (.ref (am2 10))) 16 3 (.ref (am2 14))) i J := by
      refine ⟨⟨hnd2, fun k h1 h2 => ?_⟩, ⟨h0.2.1.2.2.2.2.2.2.2.2.2.1, h0.2.1.2.2.2.2.2.2.2.2.2.2.1, h0.2.1.2.2.2.2.2.2.2.2.2.2.2⟩, ⟨?_, ?_, ?_, ?_⟩, ⟨w0.2.2.2.2.2.2.2.2.2.2.2.2.2.1, w0.2.2.2.2.2.2.2.2.2.2.2.2.2.2.1, w0.2.2.2.2.2.2.2.2.2.2.2.2.2.2.2⟩, ⟨((hins i hin).1.pk (by omega) kp5).ka hK2 ha2, by omega⟩, ⟨((hins J hJn).1.pk (by omega) kp5).ka hK2 ha2, by omega⟩⟩
      · by_cases e : k = 16
        · subst e; exact h16K
        · by_cases e2 : k = 15
          · subst e2; exact List.mem_append_right _ List.mem_cons_self
          · exact hK2 k (h0.1.2 k (by omega))
      · rw [gsG_nj (Or.inr (by decide)), gsG_nj (Or.inr (by decide)), gsG_nj (Or.inr (by decide))]; exact gsG_eq _ _ _ _
      · rw [gsG_nj (Or.inr (by decide)), gsG_nj (Or.inr (by decide))]; exact gsG_eq _ _ _ _
      · rw [gsG_nj (Or.inr (by decide))]; exact gsG_eq _ _ _ _
      · exact gsG_eq _ _ _ _
    have hT5 : TyR (K ++ [15, 16]) am2 N (gsG (gsG (gsG (gsG (gsG (gsO S3 16 (fun j => defaultValue (t_wt j))) 16 4 (.int 0)) 16 0 (.ref (am2 (200 + 20 * i)))) 16 1 (.ref (am2 (200 + 20 * J)))) 16 2 (.ref (am2 10))) 16 3 (.ref (am2 14))) q.2 NT ct pt := ((hT.pk kp5).ka hK2 ha2).tr (fun _ _ _ _ => rfl) (fun _ _ _ _ => rfl) rfl (fun f h1 h2 => gf f (by omega) (by omega) (by omega) (by omega))
    have hI5 : IR (gsG (gsG (gsG (gsG (gsG (gsO S3 16 (fun j => defaultValue (t_wt j))) 16 4 (.int 0)) 16 0 (.ref (am2 (200 + 20 * i)))) 16 1 (.ref (am2 (200 + 20 * J)))) 16 2 (.ref (am2 10))) 16 3 (.ref (am2 14))) q.2 i NT q.1 := gI.tr rfl rfl rfl rfl (kp.rf _ _) (fun _ _ => ⟨rfl, rfl, rfl⟩)
    have hS3J : S3.1 (200 + 20 * J) 2 = .int (nI hp) := by
      rw [hst.1.1 _ 2 (by omega) (by omega) (by omega) (fun z => by rw [(gk_in J (by omega)).1] at z; exact absurd z.1 (by decide)), s2 _ _ (by omega) (by omega)]
      exact hhp
    have hM5 : WM am2 hd (gsG (gsG (gsG (gsG (gsG (gsO S3 16 (fun j => defaultValue (t_wt j))) 16 4 (.int 0)) 16 0 (.ref (am2 (200 + 20 * i)))) 16 1 (.ref (am2 (200 + 20 * J)))) 16 2 (.ref (am2 10))) 16 3 (.ref (am2 14))) q.2 q.2 i J ni := WM.b0 (fun j hj a ha => by rw [q13]; show S3.2.1 _ a = _; rw [hst.1.2.1 _ (by omega) (by omega)]; exact hMe j hj a ha) (by rw [s5 _ _ (by omega), hS3J, gf 14 (by decide) (by decide) (by decide) (by decide), h14]) ((gA.s hn6 (fun k j hg => s5 k j (fun z => by rw [z] at hg; exact absurd hg (by decide)))).am (fun k h1 h2 => by rw [ha2 k h1 h2, ha1 k h1 h2])) (fun h hh => by rw [(t9 _ (by omega)).1]; exact (hTk _ (by omega)).1)
    refine ev_aload_2 76 d_hc_passValue_76 ?_
    refine gw_callV 77 16 [.ref (am2 (100 + 3 * u))] [] d_hc_passValue_77 hZ (kc_hc_345 (k9 := 15) (mc9 := 0) (ms9 := 0)) (hr_of hk15 (by decide) (by decide) (by decide)) h16K rfl rfl (ht_wt_placeWritten u hd hZ hNw hZ9 hDi hWC (F := F q.1) (hp := hp) hWW hT5 hI5 (by rw [gsG_nj (Or.inr (by decide)), gsG_nj (Or.inr (by decide)), gsG_nj (Or.inr (by decide)), gsG_nj (Or.inr (by decide))]; exact gsG_eq _ _ _ _) hM5 (hF q.1).1 (hF q.1).2 (by rw [s5 _ _ (by omega)]; exact hS3J) hp2 hu u44 t5 t7 (by decide) (by decide)) (fun r9 w9 hw => ?_)
    obtain ⟨y2, S6, x1, x2, hk6, hb6⟩ := hw
    subst x1
    subst x2
    refine ev_eq (st' := [.int y2]) ?_
    refine ev_istore_7 80 d_hc_passValue_80 ?_ (hn := by exact Nat.le_of_ble_eq_true rfl)
    refine ev_iload_7 82 d_hc_passValue_82 ?_
    refine ev_iconst_m1 84 d_hc_passValue_84 ?_
    refine ev_icmpne 85 139 d_hc_passValue_85 (fun c85 => ?_) (fun c85 => ?_)
    · have kp6 : pkp J S S6 := kp5.tr hk6.pk
      rcases hb6 with ⟨-, zy, -⟩ | ⟨z1, ⟨z2, zy, z3, z4⟩ | ⟨-, zy, -⟩⟩
      · exact absurd zy c85
      · subst zy
        exact ev_eq (L139 [15, 16] am2 S6 q 2 9 hnd2 ha2 kp6 (z3.trans ((funext (fun j => s5 14 j (by decide))).trans (hst.2.1.trans e14))) hx z1 z2 (z4.2.2.2.2.2.2.am (fun k h1 h2 => (ha2 k h1 h2).symm)) (by decide) (by decide))
      · exact absurd zy c85
    · have kp6 : pkp J S S6 := kp5.tr hk6.pk
      have hb88 : ∃ B1 fr c q9, S6.1 14 0 = .int c ∧ S6.1 14 1 = .int q9 ∧ (∀ j, j < ni → me_R S6 B1 j) ∧ HA am2 hd S6 B1 fr (lnB q.2) ni ∧ PVf F B i J (mo_ut hp (al u)) (sz u) (rd_i (B 4) ct i 5 t u p (-1) 0 0 B) c q9 B1 fr := by
        rcases hb6 with ⟨z1, -, z3⟩ | ⟨z1, ⟨-, zy, -⟩ | ⟨z2, -, z3, z4, z5, z6⟩⟩
        · subst z3
          refine ⟨q.2, fr0, 11, nI (mo_ut hp (al u)), sp_0 _ _ _, sp_1 _ _ _, hM5.1, ?_, Or.inr ⟨q, hx, Or.inl ⟨z1, rfl, rfl, rfl, rfl⟩⟩⟩
          have := hM5.2.2.1.sp (c := 11) (p := nI (mo_ut hp (al u))) hn6
          rw [frB_s] at this
          exact this
        · exact absurd (zy.symm.trans c85) (n_m1n _ (by omega))
        · exact ⟨_, _, _, _, z3, z4, z5, z6, Or.inr ⟨q, hx, Or.inr ⟨z1, z2, rfl, rfl, rfl, rfl⟩⟩⟩
      obtain ⟨B1, fr, c9, q9, y1, y2b, y3, y4, y5⟩ := hb88
      rw [c85]
      exact ev_eq (L88 [15, 16] am2 S6 B1 fr (lnB q.2) c9 q9 2 9 hnd2 ha2 kp6 y1 y2b y3 (y4.am (fun k h1 h2 => (ha2 k h1 h2).symm)) y5 (by decide) (by decide))
