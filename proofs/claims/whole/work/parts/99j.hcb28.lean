theorem nb_v2 {B : Nat → Nat → Int32} {NT : Nat} {ct dp : Nat → Nat} {pt : Nat → Nat → Nat} (hW : ty_wf B NT ct dp pt) {t u : Nat} (ht : t < NT) (hu : u < NT) : nb_v (nb_r B ct pt 5 t u 0) < 2147483648 := by
  have h1 := nb_bd hW 5 t u 0 ht hu
  have h2 := nb_vw (nb_r B ct pt 5 t u 0)
  omega

set_option maxHeartbeats 4000000 in
set_option maxRecDepth 100000 in
theorem hx_hc_call {l : Launch} {D : va_G} {tl : List (ClassId × FieldType)} {Z : (Nat → Prop) → State → Heap → Prop} {K : List Nat} {am : Nat → Nat} {ks : Nat → ClassId} {N : Nat → Nat} {S : gS} {k : Nat} (f : Int32) (t : Int32) (p : Int32) (hl : l.stackTraces = false) (hzx : hc_ZX Z) (hZ : ev_Zok Z) (h0 : hc_w0 K am N S) {ni : Nat} (hn6 : ni ≤ 6) (e5 : S.1 0 5 = .int (nI ni)) (hins : ∀ i, i < ni → in_ok K am N S i ∧ S.2.2.1 3 i = some (am (200 + 20 * i))) {B : Nat → Nat → Int32} {NT : Nat} {ct : Nat → Nat} {pt : Nat → Nat → Nat} (hT : TyR K am N S B NT ct pt) (e1 : S.1 0 1 = .int (nI NT)) {Lv : Nat} (hL : S.1 0 11 = .int (nI Lv)) (hL6 : Lv ≤ 6) {ru : Nat → Nat} (hru : ∀ k, k < Lv → S.2.1 5 k = nI (ru k) ∧ ru k < ni) (hd : Nat → Nat) (hZ9 : ho_Z Z hd) (hDi : ho_D hd) (hA : HA am hd S B fr0 (lnB B) ni) (hTk : ∀ x, x < 102 → B 20 x = 0) {nf : Nat} (hnf : nf ≤ 12) (e7 : S.1 0 7 = .int (nI nf)) {hm ar rs : Nat → Nat} (hfn : ∀ f, f < nf → 400 + f ∈ K ∧ S.2.2.1 4 f = some (am (400 + f)) ∧ S.1 (400 + f) 0 = .int (nI (hm f)) ∧ S.1 (400 + f) 1 = .ref (am (100 + 3 * ar f)) ∧ S.1 (400 + f) 2 = .ref (am (100 + 3 * rs f)) ∧ hm f < ni ∧ ar f < NT ∧ rs f < NT) {sz al hp : Nat → Nat} {dp : Nat → Nat} {Rf : Nat → Nat → Prop} (hW : ty_wf B NT ct dp pt) (h15 : ∀ i, i < ni → S.1 (200 + 20 * i) 3 = .int (B 15 i)) (h30 : ∀ k, k < Lv → B 30 k = nI (ru k)) (hRf : ∀ t u, t < NT → u < NT → nb_v (nb_r B ct pt 5 t u 0) = 0 → Rf t u) (F : Nat → Nat → Int32) (hF : ∀ n, F n 54 = 0 ∧ F n 52 = 0) (hNw : hc_ZN Z) (hSz : ∀ u, u < NT → B 4 u = nI (sz u) ∧ sz u ≤ 96 ∧ B 5 u = nI (al u) ∧ 1 ≤ al u ∧ al u ≤ 8) (hhp : ∀ j, j < 6 → hp j ≤ 256) (hL5 : ∀ j, j < ni → ¬ B 15 j = 1 → Lv < 6) (hPH : ∀ J, 0 < Lv → J < ni → ¬ B 15 J = 1 → PH K am N hd S B (ru (Lv - 1)) J NT ni Lv (hp J) ct dp pt sz al ru Rf) (hk5 : 16 < k) : MX (hc_π l D ks tl Z) (m_hc_call k 2 9) 2 9 [.ref (am 0), .int f, .int t, .int p] (gw K am ks N S) (fun r w => 0 < Lv ∧ ∃ ff tt, ff < nf ∧ tt < NT ∧ f = nI ff ∧ t = nI tt ∧ nb_v (nb_r B ct pt 5 tt (ar ff) 0) = 0 ∧ ((B 15 (hm ff) = 1 ∧ r = some (.int 14) ∧ ∃ S9, w = gw K am ks N S9 ∧ EAQ hd (sp_S S 14 p) S9 (ru (Lv - 1)) ni Lv (B 15) (B 30) (fun a h => hof B fr0 (17 * a + h + 1))) ∨ (¬ B 15 (hm ff) = 2 ∧ ¬ B 15 (hm ff) = 3 ∧ ¬ B 15 (hm ff) = 1 ∧ ∃ S9, (w = gw K am ks N S9 ∧ r = some (S9.1 14 0) ∧ PVn K am N hd ks S F B (ru (Lv - 1)) (hm ff) ni Lv (mo_ut (hp (hm ff)) (al (ar ff))) (sz (ar ff)) (rd_i (B 4) ct (ru (Lv - 1)) 5 tt (ar ff) p (-1) 0 0 B) S9) ∨ (r = some (.int 0) ∧ w = gw K am ks N (hs_pu S9 Lv (hm ff) (nI ff) (nI (mo_ut (hp (hm ff)) (al (ar ff))))) ∧ PVo am hd S F (ru (Lv - 1)) (hm ff) ni (mo_ut (hp (hm ff)) (al (ar ff))) (sz (ar ff)) (rd_i (B 4) ct (ru (Lv - 1)) 5 tt (ar ff) p (-1) 0 0 B) S9)))) (fun E w => w = gw K am ks N S ∧ ((E = "java/lang/IllegalStateException" ∧ Lv = 0) ∨ (E = "java/lang/IllegalArgumentException" ∧ 0 < Lv ∧ ¬ ((¬ f < 0 ∧ ¬ nI nf ≤ f) ∧ (¬ t < 0 ∧ ¬ nI NT ≤ t))) ∨ (E = "java/lang/UnsupportedOperationException" ∧ 0 < Lv ∧ ∃ ff tt, ff < nf ∧ tt < NT ∧ f = nI ff ∧ t = nI tt ∧ ¬ nb_v (nb_r B ct pt 5 tt (ar ff) 0) = 0) ∨ (E = "java/util/NoSuchElementException" ∧ 0 < Lv ∧ ∃ ff tt, ff < nf ∧ tt < NT ∧ f = nI ff ∧ t = nI tt ∧ nb_v (nb_r B ct pt 5 tt (ar ff) 0) = 0 ∧ (B 15 (hm ff) = 2 ∨ B 15 (hm ff) = 3)))) := by
  refine mx_of pl_hc rfl (Nat.le_of_ble_eq_true rfl) (ev_eq (lv' := [some (.ref (am 0)), some (.int f), some (.int t), some (.int p), none, none, none]) ?_)
  refine ev_aload_0 0 d_hc_call_0 ?_
  refine gw_get 1 0 11 d_hc_call_1 lk_hc_53 (h0.1.2 0 (by decide)) rfl (.int (nI Lv)) hL ?_
  refine ev_ifne 4 17 d_hc_call_4 (fun c4 => ?_) (fun c4 => ?_)
  · have hLp : 0 < Lv := Nat.pos_of_ne_zero (fun z => c4 (by rw [z]; rfl))
    refine ev_iload_1 17 d_hc_call_17 ?_
    refine ev_iflt 18 37 d_hc_call_18 (fun c18 => ?_) (fun c18 => ?_)
    · refine gw_thrW 37 d_hc_call_37 d_hc_call_40 d_hc_call_41 d_hc_call_44 d_hc_call_47 hl hzx tm_258_90 xw_86_90 (by omega) (by exact Nat.le_of_ble_eq_true rfl) (by exact Nat.le_of_ble_eq_true rfl) (by exact Nat.le_of_ble_eq_true rfl) ?_
      exact ⟨rfl, Or.inr (Or.inl ⟨rfl, hLp, fun w => w.1.1 c18⟩)⟩
    · refine ev_iload_1 21 d_hc_call_21 ?_
      refine ev_aload_0 22 d_hc_call_22 ?_
      refine gw_get 23 0 7 d_hc_call_23 lk_hc_40 (h0.1.2 0 (by decide)) rfl (.int (nI nf)) e7 ?_
      refine ev_icmpge 26 37 d_hc_call_26 (fun c26 => ?_) (fun c26 => ?_)
      · refine gw_thrW 37 d_hc_call_37 d_hc_call_40 d_hc_call_41 d_hc_call_44 d_hc_call_47 hl hzx tm_258_90 xw_86_90 (by omega) (by exact Nat.le_of_ble_eq_true rfl) (by exact Nat.le_of_ble_eq_true rfl) (by exact Nat.le_of_ble_eq_true rfl) ?_
        exact ⟨rfl, Or.inr (Or.inl ⟨rfl, hLp, fun w => w.1.2 c26⟩)⟩
      · refine ev_aload_0 29 d_hc_call_29 ?_
        refine ev_iload_2 30 d_hc_call_30 ?_
        refine gw_callV 31 0 [.int t] [] d_hc_call_31 hZ (kc_hc_82 (k9 := 0) (mc9 := 0) (ms9 := 0)) (hr_of (by omega) (by decide) (by decide) (by decide)) (h0.1.2 0 (by decide)) rfl rfl (ht_hc_isType t (h0.1.2 0 (by decide)) (nI NT) e1) (fun r9 w9 hw => ?_)
        obtain ⟨x1, y, x2, hy⟩ := hw
        subst x1
        subst x2
        refine ev_eq (st' := [.int y]) ?_
        refine ev_ifne 34 48 d_hc_call_34 (fun c34 => ?_) (fun c34 => ?_)
        · obtain ⟨tt, htt, rfl⟩ := n_typ rfl hT.1 (mo_b1 hy c34)
          obtain ⟨ff, hff0, rfl⟩ := nI_of c18
          have hff : ff < nf := n_nle nf ff c26
          refine ev_aload_0 48 d_hc_call_48 ?_
          refine gw_get 49 0 6 d_hc_call_49 lk_hc_36 (h0.1.2 0 (by decide)) rfl (.ref (am 4)) h0.2.2.2.2.2.1 ?_
          refine ev_iload_1 52 d_hc_call_52 ?_
          refine gw_qld (j := ff) 53 4 d_hc_call_53 (h0.1.2 4 (by decide)) rfl (by rw [h0.2.1.2.2.2.1]; omega) (by rw [h0.2.1.2.2.2.1]; decide) _ (hfn ff hff).2.1 ?_
          refine ev_astore_4 54 d_hc_call_54 ?_ (hn := by exact Nat.le_of_ble_eq_true rfl)
          refine ev_aload_0 56 d_hc_call_56 ?_
          refine gw_get 57 0 0 d_hc_call_57 lk_hc_11 (h0.1.2 0 (by decide)) rfl (.ref (am 1)) h0.2.2.1 ?_
          refine ev_iload_2 60 d_hc_call_60 ?_
          refine gw_qld (j := tt) 61 1 d_hc_call_61 (h0.1.2 1 (by decide)) rfl (by rw [h0.2.1.1]; have := hT.1; omega) (by rw [h0.2.1.1]; decide) _ (hT.q htt) ?_
          refine ev_aload_4 62 d_hc_call_62 ?_
          refine gw_get 64 (400 + ff) 1 d_hc_call_64 lk_hc_260 (hfn ff hff).1 (gk_fu ff (by omega)) (.ref (am (100 + 3 * ar ff))) (hfn ff hff).2.2.2.1 ?_
          refine ev_callS 67 [.ref (am (100 + 3 * tt)), .ref (am (100 + 3 * (ar ff)))] [] d_hc_call_67 hZ (kc_hc_140 (k9 := 8) (mc9 := 0) (ms9 := 0)) (hr_of (by omega) (by decide) (by decide) (by decide)) (ht_hc_firstMisfit tt (ar ff) hZ hT hW htt (hfn ff hff).2.2.2.2.2.2.1 (by decide)) (fun r9 w9 hw => ?_)
          obtain ⟨x1, x2⟩ := hw
          subst x1
          subst x2
          refine ev_eq (st' := [.int (nI (nb_v (nb_r B ct pt 5 tt (ar ff) 0)))]) ?_
          refine ev_ifeq 70 84 d_hc_call_70 (fun c70 => ?_) (fun c70 => ?_)
          · have hnb : nb_v (nb_r B ct pt 5 tt (ar ff) 0) = 0 := n_eq (nb_v (nb_r B ct pt 5 tt (ar ff) 0)) 0 c70 (ha := by exact nb_v2 hW htt (hfn ff hff).2.2.2.2.2.2.1)
            refine ev_aload_0 84 d_hc_call_84 ?_
            refine gw_get 85 0 4 d_hc_call_85 lk_hc_27 (h0.1.2 0 (by decide)) rfl (.ref (am 3)) h0.2.2.2.2.1 ?_
            refine ev_aload_4 88 d_hc_call_88 ?_
            refine gw_get 90 (400 + ff) 0 d_hc_call_90 lk_hc_266 (hfn ff hff).1 (gk_fu ff (by omega)) (.int (nI (hm ff))) (hfn ff hff).2.2.1 ?_
            refine gw_qld (j := hm ff) 93 3 d_hc_call_93 (h0.1.2 3 (by decide)) rfl (by rw [h0.2.1.2.2.1]; have := (hfn ff hff).2.2.2.2.2.1; omega) (by rw [h0.2.1.2.2.1]; decide) _ (hins (hm ff) (hfn ff hff).2.2.2.2.2.1).2 ?_
            refine gw_get 94 (200 + 20 * hm ff) 3 d_hc_call_94 lk_hc_182 (hins (hm ff) (hfn ff hff).2.2.2.2.2.1).1.1 (gk_in (hm ff) (by have := (hfn ff hff).2.2.2.2.2.1; omega)).1 (.int (B 15 (hm ff))) (h15 (hm ff) (hfn ff hff).2.2.2.2.2.1) ?_
            refine ev_istore_5 97 d_hc_call_97 ?_ (hn := by exact Nat.le_of_ble_eq_true rfl)
            refine ev_iload_5 99 d_hc_call_99 ?_
            refine ev_iconst_2 101 d_hc_call_101 ?_
            refine ev_icmpeq 102 111 d_hc_call_102 (fun c102 => ?_) (fun c102 => ?_)
            · refine gw_thrW 111 d_hc_call_111 d_hc_call_114 d_hc_call_115 d_hc_call_118 d_hc_call_121 hl hzx tm_269_236 xw_232_236 (by omega) (by exact Nat.le_of_ble_eq_true rfl) (by exact Nat.le_of_ble_eq_true rfl) (by exact Nat.le_of_ble_eq_true rfl) ?_
              exact ⟨rfl, Or.inr (Or.inr (Or.inr ⟨rfl, hLp, ff, tt, hff, htt, rfl, rfl, hnb, Or.inl c102⟩))⟩
            · refine ev_iload_5 105 d_hc_call_105 ?_
              refine ev_iconst_3 107 d_hc_call_107 ?_
              refine ev_icmpne 108 122 d_hc_call_108 (fun c108 => ?_) (fun c108 => ?_)
              · refine ev_iload_5 122 d_hc_call_122 ?_
                refine ev_iconst_1 124 d_hc_call_124 ?_
                refine ev_icmpne 125 150 d_hc_call_125 (fun c125 => ?_) (fun c125 => ?_)
                · refine ev_aload_0 150 d_hc_call_150 ?_
                  refine ev_aload_0 151 d_hc_call_151 ?_
                  refine gw_get 152 0 0 d_hc_call_152 lk_hc_11 (h0.1.2 0 (by decide)) rfl (.ref (am 1)) h0.2.2.1 ?_
                  refine ev_iload_2 155 d_hc_call_155 ?_
                  refine gw_qld (j := tt) 156 1 d_hc_call_156 (h0.1.2 1 (by decide)) rfl (by rw [h0.2.1.1]; have := hT.1; omega) (by rw [h0.2.1.1]; decide) _ (hT.q htt) ?_
                  refine ev_aload_4 157 d_hc_call_157 ?_
                  refine gw_get 159 (400 + ff) 1 d_hc_call_159 lk_hc_260 (hfn ff hff).1 (gk_fu ff (by omega)) (.ref (am (100 + 3 * ar ff))) (hfn ff hff).2.2.2.1 ?_
                  refine ev_iload_3 162 d_hc_call_162 ?_
                  refine ev_aload_4 163 d_hc_call_163 ?_
                  refine gw_get 165 (400 + ff) 0 d_hc_call_165 lk_hc_266 (hfn ff hff).1 (gk_fu ff (by omega)) (.int (nI (hm ff))) (hfn ff hff).2.2.1 ?_
                  refine gw_callV 168 0 [.ref (am (100 + 3 * tt)), .ref (am (100 + 3 * (ar ff))), .int p, .int (nI (hm ff))] [] d_hc_call_168 hZ (kc_hc_278 (k9 := 16) (mc9 := 2) (ms9 := 9)) (hr_of (by omega) (by decide) (by decide) (by decide)) (h0.1.2 0 (by decide)) rfl rfl (ht_hc_passValue tt (ar ff) p (hm ff) hd hZ hNw hZ9 hDi F hF (hPH (hm ff) hLp (hfn ff hff).2.2.2.2.2.1 c125) (hRf tt (ar ff) htt (hfn ff hff).2.2.2.2.2.2.1 hnb) (by decide)) (fun r9 w9 hw => ?_)
                  obtain ⟨S9, x1, hpv⟩ := hw
                  subst x1
                  obtain ⟨y9, ey9⟩ : ∃ y9 : Int32, r9 = some (.int y9) := by
                    rcases hpv with ⟨e9, -⟩ | ⟨e9, -⟩
                    · exact ⟨_, e9⟩
                    · exact ⟨_, e9⟩
                  subst ey9
                  refine ev_eq (st' := [.int y9]) ?_
                  refine ev_istore_6 171 d_hc_call_171 ?_ (hn := by exact Nat.le_of_ble_eq_true rfl)
                  refine ev_iload_6 173 d_hc_call_173 ?_
                  refine ev_iconst_m1 175 d_hc_call_175 ?_
                  refine ev_icmpne 176 187 d_hc_call_176 (fun c176 => ?_) (fun c176 => ?_)
                  · obtain ⟨e9, -⟩ | ⟨e9, hPo⟩ := hpv
                    · exact absurd (Value.int.inj (Option.some.inj e9)) c176
                    replace e9 := Value.int.inj (Option.some.inj e9)
                    subst e9
                    have hPo0 := hPo
                    obtain ⟨q, S1, -, -, -, kp1, -, -, eS9⟩ := hPo0
                    have hk9 : hkp S1 S9 := by rw [eS9]; exact (hh_ch_k (by have := (hru (Lv - 1) (by omega)).2; omega) 16 (Nat.le_refl _)).tr (hh_ch_k (by have := (hfn ff hff).2.2.2.2.2.1; omega) 16 (Nat.le_refl _))
                    have kp9 : pkp (hm ff) S S9 := kp1.tr hk9.pk
                    have w9 := h0.pk kp9
                    have gL9 : S9.1 0 11 = .int (nI Lv) := by rw [kp9.1 0 11 (by decide) (by decide) (by decide) (by omega) (by omega) (by decide)]; exact hL
                    have g49 : ∀ j, S9.1 (400 + ff) j = S.1 (400 + ff) j := fun j => kp9.1 (400 + ff) j (by omega) (by omega) (by omega) (by omega) (by have := (hfn ff hff).2.2.2.2.2.1; omega) (by rw [gk_fu ff (by omega)]; decide)
                    refine ev_aload_0 187 d_hc_call_187 ?_
                    refine ev_aload_4 188 d_hc_call_188 ?_
                    refine gw_get 190 (400 + ff) 0 d_hc_call_190 lk_hc_266 (hfn ff hff).1 (gk_fu ff (by omega)) (.int (nI (hm ff))) ((g49 0).trans (hfn ff hff).2.2.1) ?_
                    refine ev_iload_1 193 d_hc_call_193 ?_
                    refine ev_iload_6 194 d_hc_call_194 ?_
                    refine gw_callV 196 0 [.int (nI (hm ff)), .int (nI ff), .int (nI (mo_ut (hp (hm ff)) (al (ar ff))))] [] d_hc_call_196 hZ (kc_hc_187 (k9 := 0) (mc9 := 0) (ms9 := 0)) (hr_of (by omega) (by decide) (by decide) (by decide)) (w9.1.2 0 (by decide)) rfl rfl (ht_hc_push (hm ff) (nI ff) (nI (mo_ut (hp (hm ff)) (al (ar ff)))) w9 Lv gL9 (hL5 (hm ff) (hfn ff hff).2.2.2.2.2.1 c125) (by have := (hfn ff hff).2.2.2.2.2.1; omega) (by rw [kp9.2.2.1]; exact (hins (hm ff) (hfn ff hff).2.2.2.2.2.1).2) (hins (hm ff) (hfn ff hff).2.2.2.2.2.1).1.1) (fun r9 w9 hw => ?_)
                    obtain ⟨x1, x2⟩ := hw
                    subst x1
                    subst x2
                    refine ev_eq (st' := []) ?_
                    refine ev_iconst_0 199 d_hc_call_199 ?_
                    refine ev_pad 2 9 (by exact Nat.le_of_ble_eq_true rfl) (by exact Nat.le_of_ble_eq_true rfl) ?_
                    refine ev_toX ?_
                    refine ev_iret 200 d_hc_call_200 rfl ?_
                    exact ⟨hLp, ff, tt, hff, htt, rfl, rfl, hnb, Or.inr ⟨c102, c108, c125, S9, Or.inr ⟨rfl, rfl, hPo⟩⟩⟩
                  · subst c176
                    obtain ⟨-, hPn⟩ | ⟨e9, -⟩ := hpv
                    case inr => exact absurd (Value.int.inj (Option.some.inj e9)).symm (n_m1n _ (by have := mo_ut_le (hp (hm ff)) (al (ar ff)) (by have := (hSz (ar ff) (hfn ff hff).2.2.2.2.2.2.1).2.2.2.1; omega); have := (hSz (ar ff) (hfn ff hff).2.2.2.2.2.2.1).2.2.2.2; have := hhp (hm ff) (by have := (hfn ff hff).2.2.2.2.2.1; omega); omega))
                    have hPn0 := hPn
                    obtain ⟨S1, B1, fr, ln, c, q, z, kp1, hEA, t0, t1, -⟩ := hPn0
                    have w9 := (h0.pk kp1).ek hEA.1
                    have t9 : S9.1 14 0 = .int c := by rw [hEA.1.1 14 0 (by omega) (fun w => absurd w.1 (by decide)) (fun w => absurd w.1 (by decide))]; exact t0
                    refine ev_aload_0 179 d_hc_call_179 ?_
                    refine gw_get 180 0 16 d_hc_call_180 lk_hc_75 (w9.1.2 0 (by decide)) rfl (.ref (am 14)) w9.2.2.2.2.2.2.2.2.2.2.2.2.1 ?_
                    refine gw_get 183 14 0 d_hc_call_183 lk_hc_282 (w9.1.2 14 (by decide)) rfl (.int c) t9 ?_
                    refine ev_pad 2 9 (by exact Nat.le_of_ble_eq_true rfl) (by exact Nat.le_of_ble_eq_true rfl) ?_
                    refine ev_toX ?_
                    refine ev_iret 186 d_hc_call_186 rfl ?_
                    exact ⟨hLp, ff, tt, hff, htt, rfl, rfl, hnb, Or.inr ⟨c102, c108, c125, S9, Or.inl ⟨rfl, by rw [t9], hPn⟩⟩⟩
                · refine ev_aload_0 128 d_hc_call_128 ?_
                  refine gw_get 129 0 16 d_hc_call_129 lk_hc_75 (h0.1.2 0 (by decide)) rfl (.ref (am 14)) h0.2.2.2.2.2.2.2.2.2.2.2.2.1 ?_
                  refine ev_bipush (14) 132 d_hc_call_132 (by decide) ?_
                  refine ev_iload_3 134 d_hc_call_134 ?_
                  refine gw_callV 135 14 [.int 14, .int p] [] d_hc_call_135 hZ (kc_hc_271 (k9 := 0) (mc9 := 0) (ms9 := 0)) (hr_of (by omega) (by decide) (by decide) (by decide)) (h0.1.2 14 (by decide)) rfl rfl (ht_tr_springs 14 p h0.1.1 (h0.1.2 14 (by decide))) (fun r9 w9 hw => ?_)
                  obtain ⟨x1, x2⟩ := hw
                  subst x1
                  subst x2
                  refine ev_eq (st' := [.int 0]) (ws' := gw K am ks N (sp_S S 14 p)) ?_
                  have kp0 : pkp 0 S (sp_S S 14 p) := ⟨fun k j _ _ h3 _ _ _ => sp_k h3, fun _ _ _ _ => rfl, rfl, fun _ _ => rfl⟩
                  have w0 := h0.pk kp0
                  have gL : (sp_S S 14 p).1 0 11 = .int (nI Lv) := by rw [sp_k (by decide)]; exact hL
                  have gtop : (sp_S S 14 p).2.1 5 (Lv - 1) = nI (ru (Lv - 1)) := (hru (Lv - 1) (by omega)).1
                  refine ev_pop_i 138 d_hc_call_138 ?_
                  refine ev_aload_0 139 d_hc_call_139 ?_
                  refine ev_aload_0 140 d_hc_call_140 ?_
                  refine gw_callV 141 0 [] [.ref (am 0)] d_hc_call_141 hZ (kc_hc_203 (k9 := 5) (mc9 := 0) (ms9 := 0)) (hr_of (by omega) (by decide) (by decide) (by decide)) (w0.1.2 0 (by decide)) rfl rfl (ht_hc_top (w0.1.2 0 (by decide)) Lv gL hL6 (w0.1.2 5 (by decide)) w0.2.1.2.2.2.2.1 w0.2.2.2.2.2.2.1 hLp) (fun r9 w9 hw => ?_)
                  obtain ⟨x1, x2⟩ := hw
                  subst x1
                  subst x2
                  rw [gtop]
                  refine ev_eq (st' := [.int (nI (ru (Lv - 1))), .ref (am 0)]) ?_
                  refine gw_callV 144 0 [.int (nI (ru (Lv - 1)))] [] d_hc_call_144 hZ (kc_hc_274 (k9 := 6) (mc9 := 0) (ms9 := 0)) (hr_of (by omega) (by decide) (by decide) (by decide)) (w0.1.2 0 (by decide)) rfl rfl (ht_hc_endAllCalls (ru (Lv - 1)) (s := B 15) (b30 := B 30) (ru := ru) (ho := fun a h => hof B fr0 (17 * a + h + 1)) hd hZ hZ9 hDi w0 gL hL6 (fun k9 hk9 => ⟨(hru k9 hk9).1, (hru k9 hk9).2, h30 k9 hk9⟩) (by rw [sp_k (by decide)]; exact e5) hn6 (fun a ha9 => ⟨(hins a ha9).1.pk (by omega) kp0, (hins a ha9).2, by rw [sp_k (by omega)]; exact h15 a ha9⟩) (fun a h ha9 hh => ⟨hof_lt _ _ _, by rw [sp_k (by omega)]; exact (hA a h ha9 hh).1⟩) (hru _ (by omega)).2 (by decide)) (fun r9 w9 hw => ?_)
                  obtain ⟨x1, S2, x2, hEA⟩ := hw
                  subst x1
                  subst x2
                  refine ev_eq (st' := []) ?_
                  refine ev_bipush (14) 147 d_hc_call_147 (by decide) ?_
                  refine ev_pad 2 9 (by exact Nat.le_of_ble_eq_true rfl) (by exact Nat.le_of_ble_eq_true rfl) ?_
                  refine ev_toX ?_
                  refine ev_iret 149 d_hc_call_149 rfl ?_
                  exact ⟨hLp, ff, tt, hff, htt, rfl, rfl, hnb, Or.inl ⟨c125, rfl, S2, rfl, hEA⟩⟩
              · refine gw_thrW 111 d_hc_call_111 d_hc_call_114 d_hc_call_115 d_hc_call_118 d_hc_call_121 hl hzx tm_269_236 xw_232_236 (by omega) (by exact Nat.le_of_ble_eq_true rfl) (by exact Nat.le_of_ble_eq_true rfl) (by exact Nat.le_of_ble_eq_true rfl) ?_
                exact ⟨rfl, Or.inr (Or.inr (Or.inr ⟨rfl, hLp, ff, tt, hff, htt, rfl, rfl, hnb, Or.inr c108⟩))⟩
          · refine gw_thrW 73 d_hc_call_73 d_hc_call_76 d_hc_call_77 d_hc_call_80 d_hc_call_83 hl hzx tm_264_160 xw_156_160 (by omega) (by exact Nat.le_of_ble_eq_true rfl) (by exact Nat.le_of_ble_eq_true rfl) (by exact Nat.le_of_ble_eq_true rfl) ?_
            exact ⟨rfl, Or.inr (Or.inr (Or.inl ⟨rfl, hLp, ff, tt, hff, htt, rfl, rfl, fun w => c70 (by rw [w]; rfl)⟩))⟩
        · refine gw_thrW 37 d_hc_call_37 d_hc_call_40 d_hc_call_41 d_hc_call_44 d_hc_call_47 hl hzx tm_258_90 xw_86_90 (by omega) (by exact Nat.le_of_ble_eq_true rfl) (by exact Nat.le_of_ble_eq_true rfl) (by exact Nat.le_of_ble_eq_true rfl) ?_
          exact ⟨rfl, Or.inr (Or.inl ⟨rfl, hLp, fun w => mo_b0 hy c34 w.2⟩)⟩
  · have hL0 : Lv = 0 := (n_z (by omega)).mp c4
    refine gw_thr 7 d_hc_call_7 d_hc_call_10 d_hc_call_11 d_hc_call_13 d_hc_call_16 hl hzx tm_196_97 xw_93_97 (by omega) (by exact Nat.le_of_ble_eq_true rfl) (by exact Nat.le_of_ble_eq_true rfl) (by exact Nat.le_of_ble_eq_true rfl) ?_
    exact ⟨rfl, Or.inl ⟨rfl, hL0⟩⟩

theorem n_s2 {a : Nat} (h : 2 ≤ a) : nI a - 2 = nI (a - 2) := (Int32.ofNat_sub _ _ h).symm

set_option maxHeartbeats 4000000 in
set_option maxRecDepth 100000 in
theorem hx_hc_back {l : Launch} {D : va_G} {tl : List (ClassId × FieldType)} {Z : (Nat → Prop) → State → Heap → Prop} {K : List Nat} {am : Nat → Nat} {ks : Nat → ClassId} {N : Nat → Nat} {S : gS} {k : Nat} (t : Int32) (p : Int32) (hl : l.stackTraces = false) (hzx : hc_ZX Z) (hZ : ev_Zok Z) (h0 : hc_w0 K am N S) {ni : Nat} (hn6 : ni ≤ 6) (e5 : S.1 0 5 = .int (nI ni)) (hins : ∀ i, i < ni → in_ok K am N S i ∧ S.2.2.1 3 i = some (am (200 + 20 * i))) {B : Nat → Nat → Int32} {NT : Nat} {ct : Nat → Nat} {pt : Nat → Nat → Nat} (hT : TyR K am N S B NT ct pt) (e1 : S.1 0 1 = .int (nI NT)) {Lv : Nat} (hL : S.1 0 11 = .int (nI Lv)) (hL6 : Lv ≤ 6) {ru : Nat → Nat} (hru : ∀ k, k < Lv → S.2.1 5 k = nI (ru k) ∧ ru k < ni) (hd : Nat → Nat) (hZ9 : ho_Z Z hd) (hDi : ho_D hd) (hA : HA am hd S B fr0 (lnB B) ni) (hTk : ∀ x, x < 102 → B 20 x = 0) {nf : Nat} (hnf : nf ≤ 12) (e7 : S.1 0 7 = .int (nI nf)) {hm ar rs : Nat → Nat} (hfn : ∀ f, f < nf → 400 + f ∈ K ∧ S.2.2.1 4 f = some (am (400 + f)) ∧ S.1 (400 + f) 0 = .int (nI (hm f)) ∧ S.1 (400 + f) 1 = .ref (am (100 + 3 * ar f)) ∧ S.1 (400 + f) 2 = .ref (am (100 + 3 * rs f)) ∧ hm f < ni ∧ ar f < NT ∧ rs f < NT) {sz al hp : Nat → Nat} {dp : Nat → Nat} {Rf : Nat → Nat → Prop} (hW : ty_wf B NT ct dp pt) (h15 : ∀ i, i < ni → S.1 (200 + 20 * i) 3 = .int (B 15 i)) (h30 : ∀ k, k < Lv → B 30 k = nI (ru k)) (hRf : ∀ t u, t < NT → u < NT → nb_v (nb_r B ct pt 5 t u 0) = 0 → Rf t u) (F : Nat → Nat → Int32) (hF : ∀ n, F n 54 = 0 ∧ F n 52 = 0) (hNw : hc_ZN Z) {cf : Nat → Nat} (hcf : ∀ k, 1 ≤ k → k < Lv → S.2.1 6 k = nI (cf k) ∧ cf k < nf) (hSz : ∀ u, u < NT → B 4 u = nI (sz u) ∧ sz u ≤ 96 ∧ B 5 u = nI (al u) ∧ 1 ≤ al u ∧ al u ≤ 8) (hhp : ∀ j, j < 6 → hp j ≤ 256) (hPH : 2 ≤ Lv → PH K am N hd S B (ru (Lv - 1)) (ru (Lv - 2)) NT ni Lv (hp (ru (Lv - 2))) ct dp pt sz al ru Rf) (hEnd : 2 ≤ Lv → ∀ tt q S9, tt < NT → nb_v (nb_r B ct pt 5 tt (rs (cf (Lv - 1))) 0) = 0 → (rd_i (B 4) ct (ru (Lv - 1)) 5 tt (rs (cf (Lv - 1))) p (-1) 0 0 B) = .inr q → PVo am hd S F (ru (Lv - 1)) (ru (Lv - 2)) ni (mo_ut (hp (ru (Lv - 2))) (al (rs (cf (Lv - 1))))) (sz (rs (cf (Lv - 1)))) (rd_i (B 4) ct (ru (Lv - 1)) 5 tt (rs (cf (Lv - 1))) p (-1) 0 0 B) S9 → HA am hd S9 (pe_B True (PVw F (ru (Lv - 1)) (ru (Lv - 2)) (mo_ut (hp (ru (Lv - 2))) (al (rs (cf (Lv - 1))))) (sz (rs (cf (Lv - 1)))) q).2 102) fr0 (lnB (pe_B True (PVw F (ru (Lv - 1)) (ru (Lv - 2)) (mo_ut (hp (ru (Lv - 2))) (al (rs (cf (Lv - 1))))) (sz (rs (cf (Lv - 1)))) q).2 102)) ni) (hk5 : 16 < k) : MX (hc_π l D ks tl Z) (m_hc_back k 2 9) 2 9 [.ref (am 0), .int t, .int p] (gw K am ks N S) (fun r w => 2 ≤ Lv ∧ ∃ tt, tt < NT ∧ t = nI tt ∧ nb_v (nb_r B ct pt 5 tt (rs (cf (Lv - 1))) 0) = 0 ∧ ∃ S9, (w = gw K am ks N S9 ∧ r = some (S9.1 14 0) ∧ PVn K am N hd ks S F B (ru (Lv - 1)) (ru (Lv - 2)) ni Lv (mo_ut (hp (ru (Lv - 2))) (al (rs (cf (Lv - 1))))) (sz (rs (cf (Lv - 1)))) (rd_i (B 4) ct (ru (Lv - 1)) 5 tt (rs (cf (Lv - 1))) p (-1) 0 0 B) S9) ∨ (r = some (.int 0) ∧ ∃ S10 q, (rd_i (B 4) ct (ru (Lv - 1)) 5 tt (rs (cf (Lv - 1))) p (-1) 0 0 B) = .inr q ∧ PVo am hd S F (ru (Lv - 1)) (ru (Lv - 2)) ni (mo_ut (hp (ru (Lv - 2))) (al (rs (cf (Lv - 1))))) (sz (rs (cf (Lv - 1)))) (rd_i (B 4) ct (ru (Lv - 1)) 5 tt (rs (cf (Lv - 1))) p (-1) 0 0 B) S9 ∧ hkp S9 S10 ∧ HA am hd S10 (el_B (pe_B True (PVw F (ru (Lv - 1)) (ru (Lv - 2)) (mo_ut (hp (ru (Lv - 2))) (al (rs (cf (Lv - 1))))) (sz (rs (cf (Lv - 1)))) q).2 102) (ru (Lv - 1)) 16) fr0 (lnB (el_B (pe_B True (PVw F (ru (Lv - 1)) (ru (Lv - 2)) (mo_ut (hp (ru (Lv - 2))) (al (rs (cf (Lv - 1))))) (sz (rs (cf (Lv - 1)))) q).2 102) (ru (Lv - 1)) 16)) ni ∧ w = gw K am ks N (gsA (hs_po S10 Lv (ru (Lv - 1))) 7 (Lv - 2) (nI (mo_ut (hp (ru (Lv - 2))) (al (rs (cf (Lv - 1))))))))) (fun E w => w = gw K am ks N S ∧ ((E = "java/lang/IllegalStateException" ∧ ¬ 2 ≤ Lv) ∨ (E = "java/lang/IllegalArgumentException" ∧ 2 ≤ Lv ∧ ¬ (¬ t < 0 ∧ ¬ nI NT ≤ t)) ∨ (E = "java/lang/UnsupportedOperationException" ∧ 2 ≤ Lv ∧ ∃ tt, tt < NT ∧ t = nI tt ∧ ¬ nb_v (nb_r B ct pt 5 tt (rs (cf (Lv - 1))) 0) = 0))) := by
  refine mx_of pl_hc rfl (Nat.le_of_ble_eq_true rfl) (ev_eq (lv' := [some (.ref (am 0)), some (.int t), some (.int p), none, none]) ?_)
  refine ev_aload_0 0 d_hc_back_0 ?_
  refine gw_get 1 0 11 d_hc_back_1 lk_hc_53 (h0.1.2 0 (by decide)) rfl (.int (nI Lv)) hL ?_
  refine ev_iconst_2 4 d_hc_back_4 ?_
  refine ev_icmpge 5 19 d_hc_back_5 (fun c5 => ?_) (fun c5 => ?_)
  · have hL2 : 2 ≤ Lv := n_le 2 Lv c5
    have hLp : 0 < Lv := by omega
    obtain ⟨hcf1, hcf2⟩ := hcf (Lv - 1) (by omega) (by omega)
    have hub := (hfn (cf (Lv - 1)) hcf2).2.2.2.2.2.2.2
    have hRn : (ru (Lv - 1)) < ni := (hru (Lv - 1) (by omega)).2
    have hJn : (ru (Lv - 2)) < ni := (hru (Lv - 2) (by omega)).2
    refine ev_aload_0 19 d_hc_back_19 ?_
    refine ev_iload_1 20 d_hc_back_20 ?_
    refine gw_callV 21 0 [.int t] [] d_hc_back_21 hZ (kc_hc_82 (k9 := 0) (mc9 := 0) (ms9 := 0)) (hr_of (by omega) (by decide) (by decide) (by decide)) (h0.1.2 0 (by decide)) rfl rfl (ht_hc_isType t (h0.1.2 0 (by decide)) (nI NT) e1) (fun r9 w9 hw => ?_)
    obtain ⟨x1, y, x2, hy⟩ := hw
    subst x1
    subst x2
    refine ev_eq (st' := [.int y]) ?_
    refine ev_ifne 24 37 d_hc_back_24 (fun c24 => ?_) (fun c24 => ?_)
    · obtain ⟨tt, htt, rfl⟩ := n_typ rfl hT.1 (mo_b1 hy c24)
      refine ev_aload_0 37 d_hc_back_37 ?_
      refine gw_get 38 0 6 d_hc_back_38 lk_hc_36 (h0.1.2 0 (by decide)) rfl (.ref (am 4)) h0.2.2.2.2.2.1 ?_
      refine ev_aload_0 41 d_hc_back_41 ?_
      refine gw_get 42 0 9 d_hc_back_42 lk_hc_47 (h0.1.2 0 (by decide)) rfl (.ref (am 6)) h0.2.2.2.2.2.2.2.1 ?_
      refine ev_aload_0 45 d_hc_back_45 ?_
      refine gw_get 46 0 11 d_hc_back_46 lk_hc_53 (h0.1.2 0 (by decide)) rfl (.int (nI Lv)) hL ?_
      refine ev_iconst_1 49 d_hc_back_49 ?_
      refine ev_isub 50 d_hc_back_50 ?_
      refine ev_topi (nI (Lv - 1)) (n_s1 (by omega)) ?_
      refine gw_ild (j := Lv - 1) 51 6 d_hc_back_51 (h0.1.2 6 (by decide)) rfl (by rw [h0.2.1.2.2.2.2.2.1]; omega) (by rw [h0.2.1.2.2.2.2.2.1]; decide) (nI (cf (Lv - 1))) hcf1 ?_
      refine gw_qld (j := (cf (Lv - 1))) 52 4 d_hc_back_52 (h0.1.2 4 (by decide)) rfl (by rw [h0.2.1.2.2.2.1]; omega) (by rw [h0.2.1.2.2.2.1]; decide) _ (hfn (cf (Lv - 1)) hcf2).2.1 ?_
      refine gw_get 53 (400 + (cf (Lv - 1))) 2 d_hc_back_53 lk_hc_287 (hfn (cf (Lv - 1)) hcf2).1 (gk_fu (cf (Lv - 1)) (by omega)) (.ref (am (100 + 3 * (rs (cf (Lv - 1)))))) (hfn (cf (Lv - 1)) hcf2).2.2.2.2.1 ?_
      refine ev_astore_3 56 d_hc_back_56 ?_ (hn := by exact Nat.le_of_ble_eq_true rfl)
      refine ev_aload_0 57 d_hc_back_57 ?_
      refine gw_get 58 0 0 d_hc_back_58 lk_hc_11 (h0.1.2 0 (by decide)) rfl (.ref (am 1)) h0.2.2.1 ?_
      refine ev_iload_1 61 d_hc_back_61 ?_
      refine gw_qld (j := tt) 62 1 d_hc_back_62 (h0.1.2 1 (by decide)) rfl (by rw [h0.2.1.1]; have := hT.1; omega) (by rw [h0.2.1.1]; decide) _ (hT.q htt) ?_
      refine ev_aload_3 63 d_hc_back_63 ?_
      refine ev_callS 64 [.ref (am (100 + 3 * tt)), .ref (am (100 + 3 * (rs (cf (Lv - 1)))))] [] d_hc_back_64 hZ (kc_hc_140 (k9 := 8) (mc9 := 0) (ms9 := 0)) (hr_of (by omega) (by decide) (by decide) (by decide)) (ht_hc_firstMisfit tt (rs (cf (Lv - 1))) hZ hT hW htt hub (by decide)) (fun r9 w9 hw => ?_)
      obtain ⟨x1, x2⟩ := hw
      subst x1
      subst x2
      refine ev_eq (st' := [.int (nI (nb_v (nb_r B ct pt 5 tt (rs (cf (Lv - 1))) 0)))]) ?_
      refine ev_ifeq 67 81 d_hc_back_67 (fun c67 => ?_) (fun c67 => ?_)
      · have hnb : nb_v (nb_r B ct pt 5 tt (rs (cf (Lv - 1))) 0) = 0 := n_eq (nb_v (nb_r B ct pt 5 tt (rs (cf (Lv - 1))) 0)) 0 c67 (ha := by exact nb_v2 hW htt hub)
        refine ev_aload_0 81 d_hc_back_81 ?_
        refine ev_aload_0 82 d_hc_back_82 ?_
        refine gw_get 83 0 0 d_hc_back_83 lk_hc_11 (h0.1.2 0 (by decide)) rfl (.ref (am 1)) h0.2.2.1 ?_
        refine ev_iload_1 86 d_hc_back_86 ?_
        refine gw_qld (j := tt) 87 1 d_hc_back_87 (h0.1.2 1 (by decide)) rfl (by rw [h0.2.1.1]; have := hT.1; omega) (by rw [h0.2.1.1]; decide) _ (hT.q htt) ?_
        refine ev_aload_3 88 d_hc_back_88 ?_
        refine ev_iload_2 89 d_hc_back_89 ?_
        refine ev_aload_0 90 d_hc_back_90 ?_
        refine gw_get 91 0 8 d_hc_back_91 lk_hc_43 (h0.1.2 0 (by decide)) rfl (.ref (am 5)) h0.2.2.2.2.2.2.1 ?_
        refine ev_aload_0 94 d_hc_back_94 ?_
        refine gw_get 95 0 11 d_hc_back_95 lk_hc_53 (h0.1.2 0 (by decide)) rfl (.int (nI Lv)) hL ?_
        refine ev_iconst_2 98 d_hc_back_98 ?_
        refine ev_isub 99 d_hc_back_99 ?_
        refine ev_topi (nI (Lv - 2)) (n_s2 (by omega)) ?_
        refine gw_ild (j := Lv - 2) 100 5 d_hc_back_100 (h0.1.2 5 (by decide)) rfl (by rw [h0.2.1.2.2.2.2.1]; omega) (by rw [h0.2.1.2.2.2.2.1]; decide) (nI (ru (Lv - 2))) (hru (Lv - 2) (by omega)).1 ?_
        refine gw_callV 101 0 [.ref (am (100 + 3 * tt)), .ref (am (100 + 3 * (rs (cf (Lv - 1))))), .int p, .int (nI (ru (Lv - 2)))] [] d_hc_back_101 hZ (kc_hc_278 (k9 := 16) (mc9 := 2) (ms9 := 9)) (hr_of (by omega) (by decide) (by decide) (by decide)) (h0.1.2 0 (by decide)) rfl rfl (ht_hc_passValue tt (rs (cf (Lv - 1))) p (ru (Lv - 2)) hd hZ hNw hZ9 hDi F hF (hPH hL2) (hRf tt (rs (cf (Lv - 1))) htt hub hnb) (by decide)) (fun r9 w9 hw => ?_)
        obtain ⟨S9, x1, hpv⟩ := hw
        subst x1
        obtain ⟨y9, ey9⟩ : ∃ y9 : Int32, r9 = some (.int y9) := by
          rcases hpv with ⟨e9, -⟩ | ⟨e9, -⟩
          · exact ⟨_, e9⟩
          · exact ⟨_, e9⟩
        subst ey9
        refine ev_eq (st' := [.int y9]) ?_
        refine ev_istore_4 104 d_hc_back_104 ?_ (hn := by exact Nat.le_of_ble_eq_true rfl)
        refine ev_iload_4 106 d_hc_back_106 ?_
        refine ev_iconst_m1 108 d_hc_back_108 ?_
        refine ev_icmpne 109 120 d_hc_back_109 (fun c109 => ?_) (fun c109 => ?_)
        · obtain ⟨e9, -⟩ | ⟨e9, hPo⟩ := hpv
          · exact absurd (Value.int.inj (Option.some.inj e9)) c109
          replace e9 := Value.int.inj (Option.some.inj e9)
          subst e9
          have hPo0 := hPo
          obtain ⟨q, S1, hq, -, -, kp1, -, -, eS9⟩ := hPo0
          have hk9 : hkp S1 S9 := by rw [eS9]; exact (hh_ch_k (by omega) 16 (Nat.le_refl _)).tr (hh_ch_k (by omega) 16 (Nat.le_refl _))
          have kp9 : pkp (ru (Lv - 2)) S S9 := kp1.tr hk9.pk
          have w9 := h0.pk kp9
          have gL9 : S9.1 0 11 = .int (nI Lv) := by rw [kp9.1 0 11 (by decide) (by decide) (by decide) (by omega) (by omega) (by decide)]; exact hL
          have e59 : S9.2.1 5 = S.2.1 5 := kp9.2.1 5 (by decide) (by decide) (by omega)
          have gtop9 : S9.2.1 5 (Lv - 1) = nI (ru (Lv - 1)) := by rw [e59]; exact (hru (Lv - 1) (by omega)).1
          have hin9 : ∀ a, a < ni → in_ok K am N S9 a := fun a ha => (hins a ha).1.pk (by omega) kp9
          have hA9 := hEnd hL2 tt q S9 htt hnb hq hPo
          refine ev_aload_0 120 d_hc_back_120 ?_
          refine gw_get 121 0 4 d_hc_back_121 lk_hc_27 (w9.1.2 0 (by decide)) rfl (.ref (am 3)) w9.2.2.2.2.1 ?_
          refine ev_aload_0 124 d_hc_back_124 ?_
          refine gw_callV 125 0 [] [.ref (am 3)] d_hc_back_125 hZ (kc_hc_203 (k9 := 5) (mc9 := 0) (ms9 := 0)) (hr_of (by omega) (by decide) (by decide) (by decide)) (w9.1.2 0 (by decide)) rfl rfl (ht_hc_top (w9.1.2 0 (by decide)) Lv gL9 hL6 (w9.1.2 5 (by decide)) w9.2.1.2.2.2.2.1 w9.2.2.2.2.2.2.1 hLp) (fun r9 w9 hw => ?_)
          obtain ⟨x1, x2⟩ := hw
          subst x1
          subst x2
          rw [gtop9]
          refine ev_eq (st' := [.int (nI (ru (Lv - 1))), .ref (am 3)]) ?_
          refine gw_qld (j := (ru (Lv - 1))) 128 3 d_hc_back_128 (w9.1.2 3 (by decide)) rfl (by rw [w9.2.1.2.2.1]; omega) (by rw [w9.2.1.2.2.1]; decide) (some (am (200 + 20 * (ru (Lv - 1))))) (by rw [kp9.2.2.1]; exact (hins (ru (Lv - 1)) hRn).2) ?_
          refine gw_callV 129 (200 + 20 * (ru (Lv - 1))) [] [] d_hc_back_129 hZ (kc_hc_292 (k9 := 1) (mc9 := 0) (ms9 := 0)) (hr_of (by omega) (by decide) (by decide) (by decide)) (hins (ru (Lv - 1)) hRn).1.1 (gk_in (ru (Lv - 1)) (by omega)).1 rfl (ht_in_endLoansToIt (ru (Lv - 1)) hd hZ hZ9 hDi h0.1.1 hn6 (by omega) hRn hin9 (fun x hx => pe_20 hx) hA9 (by decide)) (fun r9 w9 hw => ?_)
          obtain ⟨x1, S10, x2, hk10, hA10⟩ := hw
          subst x1
          subst x2
          have kp10 : pkp (ru (Lv - 2)) S S10 := kp9.tr hk10.pk
          have w10 := h0.pk kp10
          have gL10 : S10.1 0 11 = .int (nI Lv) := by rw [kp10.1 0 11 (by decide) (by decide) (by decide) (by omega) (by omega) (by decide)]; exact hL
          have gtop10 : S10.2.1 5 (Lv - 1) = nI (ru (Lv - 1)) := by rw [hk10.2]; exact gtop9
          refine ev_eq (st' := []) ?_
          refine ev_aload_0 132 d_hc_back_132 ?_
          refine gw_callV 133 0 [] [] d_hc_back_133 hZ (kc_hc_193 (k9 := 6) (mc9 := 0) (ms9 := 0)) (hr_of (by omega) (by decide) (by decide) (by decide)) (w10.1.2 0 (by decide)) rfl rfl (ht_hc_pop hZ w10 Lv gL10 hL6 (by omega) (ru (Lv - 1)) (by omega) gtop10 (by rw [kp10.2.2.1]; exact (hins (ru (Lv - 1)) hRn).2) (hins (ru (Lv - 1)) hRn).1.1 (by decide)) (fun r9 w9 hw => ?_)
          obtain ⟨x1, x2⟩ := hw
          subst x1
          subst x2
          have s11 : ∀ j, j ≠ 11 → (hs_po S10 Lv (ru (Lv - 1))).1 0 j = S10.1 0 j := fun j hj => by
            rw [hs_po, gsG_nj (Or.inr hj), gsG_nj (Or.inl (by omega)), gsG_nj (Or.inl (by omega))]
          refine ev_eq (st' := []) ?_
          refine ev_aload_0 136 d_hc_back_136 ?_
          refine gw_get 137 0 10 d_hc_back_137 lk_hc_50 (h0.1.2 0 (by decide)) rfl (.ref (am 7)) ((s11 10 (by decide)).trans w10.2.2.2.2.2.2.2.2.1) ?_
          refine ev_aload_0 140 d_hc_back_140 ?_
          refine gw_get 141 0 11 d_hc_back_141 lk_hc_53 (h0.1.2 0 (by decide)) rfl (.int (nI (Lv - 1))) (gsG_eq _ _ _ _) ?_
          refine ev_iconst_1 144 d_hc_back_144 ?_
          refine ev_isub 145 d_hc_back_145 ?_
          refine ev_iload_4 146 d_hc_back_146 ?_
          refine ev_sndi (nI (Lv - 2)) ((n_s1 (by omega)).trans (by rw [show Lv - 1 - 1 = Lv - 2 by omega])) ?_
          refine gw_ist (j := Lv - 2) 148 7 d_hc_back_148 h0.1.1 (h0.1.2 7 (by decide)) rfl (by rw [h0.2.1.2.2.2.2.2.2.1]; omega) (by rw [h0.2.1.2.2.2.2.2.2.1]; decide) ?_
          refine ev_iconst_0 149 d_hc_back_149 ?_
          refine ev_pad 2 9 (by exact Nat.le_of_ble_eq_true rfl) (by exact Nat.le_of_ble_eq_true rfl) ?_
          refine ev_toX ?_
          refine ev_iret 150 d_hc_back_150 rfl ?_
          exact ⟨hL2, tt, htt, rfl, hnb, S9, Or.inr ⟨rfl, S10, q, hq, hPo, hk10, hA10, rfl⟩⟩
        · subst c109
          obtain ⟨-, hPn⟩ | ⟨e9, -⟩ := hpv
          case inr => exact absurd (Value.int.inj (Option.some.inj e9)).symm (n_m1n _ (by have := mo_ut_le (hp (ru (Lv - 2))) (al (rs (cf (Lv - 1)))) (by have := (hSz (rs (cf (Lv - 1))) hub).2.2.2.1; omega); have := (hSz (rs (cf (Lv - 1))) hub).2.2.2.2; have := hhp (ru (Lv - 2)) (by omega); omega))
          have hPn0 := hPn
          obtain ⟨S1, B1, fr, ln, c, q, z, kp1, hEA, t0, t1, -⟩ := hPn0
          have w9 := (h0.pk kp1).ek hEA.1
          have t9 : S9.1 14 0 = .int c := by rw [hEA.1.1 14 0 (by omega) (fun w => absurd w.1 (by decide)) (fun w => absurd w.1 (by decide))]; exact t0
          refine ev_aload_0 112 d_hc_back_112 ?_
          refine gw_get 113 0 16 d_hc_back_113 lk_hc_75 (w9.1.2 0 (by decide)) rfl (.ref (am 14)) w9.2.2.2.2.2.2.2.2.2.2.2.2.1 ?_
          refine gw_get 116 14 0 d_hc_back_116 lk_hc_282 (w9.1.2 14 (by decide)) rfl (.int c) t9 ?_
          refine ev_pad 2 9 (by exact Nat.le_of_ble_eq_true rfl) (by exact Nat.le_of_ble_eq_true rfl) ?_
          refine ev_toX ?_
          refine ev_iret 119 d_hc_back_119 rfl ?_
          exact ⟨hL2, tt, htt, rfl, hnb, S9, Or.inl ⟨rfl, by rw [t9], hPn⟩⟩
      · refine gw_thrW 70 d_hc_back_70 d_hc_back_73 d_hc_back_74 d_hc_back_77 d_hc_back_80 hl hzx tm_290_160 xw_156_160 (by omega) (by exact Nat.le_of_ble_eq_true rfl) (by exact Nat.le_of_ble_eq_true rfl) (by exact Nat.le_of_ble_eq_true rfl) ?_
        exact ⟨rfl, Or.inr (Or.inr ⟨rfl, hL2, tt, htt, rfl, fun w => c67 (by rw [w]; rfl)⟩)⟩
    · refine gw_thr 27 d_hc_back_27 d_hc_back_30 d_hc_back_31 d_hc_back_33 d_hc_back_36 hl hzx tm_88_90 xw_86_90 (by omega) (by exact Nat.le_of_ble_eq_true rfl) (by exact Nat.le_of_ble_eq_true rfl) (by exact Nat.le_of_ble_eq_true rfl) ?_
      exact ⟨rfl, Or.inr (Or.inl ⟨rfl, hL2, mo_b0 hy c24⟩)⟩
  · refine gw_thrW 8 d_hc_back_8 d_hc_back_11 d_hc_back_12 d_hc_back_15 d_hc_back_18 hl hzx tm_285_97 xw_93_97 (by omega) (by exact Nat.le_of_ble_eq_true rfl) (by exact Nat.le_of_ble_eq_true rfl) (by exact Nat.le_of_ble_eq_true rfl) ?_
    exact ⟨rfl, Or.inl ⟨rfl, fun w => c5 (nI_le (a := 2) w (by omega))⟩⟩
