set_option maxHeartbeats 4000000 in
set_option maxRecDepth 100000 in
theorem ht_re_readsHandle {l : Launch} {D : va_G} {tl : List (ClassId × FieldType)} {Z : (Nat → Prop) → State → Heap → Prop} {K : List Nat} {am : Nat → Nat} {ks : Nat → ClassId} {N : Nat → Nat} {S : gS} {k : Nat} (it : Nat) (t : Nat) (p : Int32) {B : Nat → Nat → Int32} {i : Nat} (hZ : ev_Zok Z) (hNw : hc_ZN Z) (W : rd_w K am N S i) (hM : me_R S B i) (h8 : mo_b8 B) {NT : Nat} {ct : Nat → Nat} {pt : Nat → Nat → Nat} (hT : TyR K am N S B NT ct pt) (ht : t < NT) (hd : Nat → Nat) (hZ9 : ho_Z Z hd) (hDi : ho_D hd) {ni : Nat} (hn6 : ni ≤ 6) (hin : i < ni) (hA : HA am hd S B fr0 (lnB B) ni) (hit : it < 200) (hk0 : 0 < k) (hk2 : 2 < k) : MT (hc_π l D ks tl Z) (m_re_readsHandle k 0 0) 0 0 [.ref (am 15), .int (nI it), .ref (am (100 + 3 * t)), .int p] (gw K am ks N S) (RH K am N hd ks S B i ni it (mo_rh B i t p it)) := by
  refine mt_of pl_re rfl (Nat.le_of_ble_eq_true rfl) (ev_eq (lv' := [some (.ref (am 15)), some (.int (nI it)), some (.ref (am (100 + 3 * t))), some (.int p), none]) ?_)
  obtain ⟨b, hb⟩ : ∃ b, b = bb B i p := ⟨_, rfl⟩
  have LN : ¬ (p < 0 ∨ 255 < p) → B 13 (256 * nI i + p).toNatClampNeg = nI b → b < 256 → ¬ (1 ≤ b ∧ b ≤ 16 ∧ ¬ B 16 (17 * i + b) = 0 ∧ B 20 (17 * i + b) = 0) → EV (hc_π l D ks tl Z) (m_re_readsHandle k 0 0) (ev_E (hc_π l D ks tl Z) 0 0 (RH K am N hd ks S B i ni it (mo_rh B i t p it))) 0 0 23 [some (.ref (am 15)), some (.int (nI it)), some (.ref (am (100 + 3 * t))), some (.int p), none] [.null] (gw K am ks N (gsG S 15 3 (.long (lN b)))) := by
    intro hp hX hb8 hc
    have k1 : rkp S (gsG S 15 3 (.long (lN b))) := (rkp.rf S).by
    have W1 := W.rk k1
    have hA1 : HA am hd (gsG S 15 3 (.long (lN b))) B fr0 (lnB B) ni := hA.by hn6
    refine ev_astoreN_4 23 d_re_readsHandle_23 ?_ (hn := by exact Nat.le_of_ble_eq_true rfl)
    refine ev_aloadN_4 25 d_re_readsHandle_25 ?_
    refine ev_ifnonnullN 27 d_re_readsHandle_27 ?_
    refine ev_aload_0 30 d_re_readsHandle_30 ?_
    refine gw_get 31 15 2 d_re_readsHandle_31 lk_re_23 (W.1.2 15 (by decide) (by decide)) rfl (.ref (am 14)) W1.2.2.1.2.2 ?_
    refine ev_bipush (6) 34 d_re_readsHandle_34 (by decide) ?_
    refine ev_iload_3 36 d_re_readsHandle_36 ?_
    refine gw_callV 37 14 [.int 6, .int p] [] d_re_readsHandle_37 hZ (kc_re_33 (k9 := 0) (mc9 := 0) (ms9 := 0)) (hr_of hk0 (by decide) (by decide) (by decide)) (W.1.2 14 (by decide) (by decide)) rfl rfl (ht_tr_springs 6 p W1.1.1 (W.1.2 14 (by decide) (by decide))) (fun r9 w9 hw => ?_)
    obtain ⟨e1, e2⟩ := hw
    subst e1
    subst e2
    refine ev_eq (st' := [.int 0]) ?_
    refine ev_zret 40 d_re_readsHandle_40 rfl ?_ ?_
    · rfl
    exact ⟨_, _, rfl, rfl, k1.sp, Or.inl ⟨(6, p), by rw [rh_eq hp hX hb8, if_pos hc], rfl, sp_0 _ _ _, sp_1 _ _ _, hA1.sp hn6⟩⟩
  have LR : ¬ (p < 0 ∨ 255 < p) → B 13 (256 * nI i + p).toNatClampNeg = nI b → b < 256 → ∀ h, h < 16 → b = h + 1 → ¬ B 16 (17 * i + b) = 0 → B 20 (17 * i + b) = 0 → EV (hc_π l D ks tl Z) (m_re_readsHandle k 0 0) (ev_E (hc_π l D ks tl Z) 0 0 (RH K am N hd ks S B i ni it (mo_rh B i t p it))) 0 0 23 [some (.ref (am 15)), some (.int (nI it)), some (.ref (am (100 + 3 * t))), some (.int p), none] [.ref (am (203 + 20 * i + h))] (gw K am ks N (gsG S 15 3 (.long (lN b)))) := by
    intro hp hX hb8 h hh hbh hu htk
    have k1 : rkp S (gsG S 15 3 (.long (lN b))) := (rkp.rf S).by
    have W1 := W.rk k1
    have hA1 : HA am hd (gsG S 15 3 (.long (lN b))) B fr0 (lnB B) ni := hA.by hn6
    have hxe : 17 * i + b = 17 * i + h + 1 := by omega
    obtain ⟨a1, a2, a3⟩ := hA1 i h hin hh
    obtain ⟨b0, b1, b4⟩ := a3 (by rw [← hxe]; exact hu)
    rw [← hxe] at a1 a2 b1
    have hkK := (W.2.2.2.2.1.2.2.2.2.2.2.2 h hh).1
    have hkg := (gk_in i W.2.2.2.2.2).2.2.2 h hh
    have hq : mo_rh B i t p it = _ := rh_eq hp hX hb8
    rw [if_neg (fun z => z ⟨by omega, by omega, hu, htk⟩)] at hq
    refine ev_astore_4 23 d_re_readsHandle_23 ?_ (hn := by exact Nat.le_of_ble_eq_true rfl)
    refine ev_aload_4 25 d_re_readsHandle_25 ?_
    refine ev_ifnonnull 27 41 d_re_readsHandle_27 ?_
    refine ev_aload_4 41 d_re_readsHandle_41 ?_
    refine gw_get 43 (203 + 20 * i + h) 1 d_re_readsHandle_43 lk_re_143 hkK hkg (.int (B 23 (B 17 (17 * i + b)).toNatClampNeg)) b1 ?_
    refine ev_aload_2 46 d_re_readsHandle_46 ?_
    refine gw_get 47 (100 + 3 * t) 1 d_re_readsHandle_47 lk_re_99 (hT.k0 ht) (hT.g0 ht) (.int (B 3 t)) ((hT.rk k1).f1 ht) ?_
    refine ev_icmpeq 50 64 d_re_readsHandle_50 (fun c50 => ?_) (fun c50 => ?_)
    · refine ev_aload_0 64 d_re_readsHandle_64 ?_
      refine gw_get 65 15 1 d_re_readsHandle_65 lk_re_19 (W.1.2 15 (by decide) (by decide)) rfl (.ref (am 10)) W1.2.2.1.2.1 ?_
      refine gw_get 68 10 1 d_re_readsHandle_68 lk_re_108 (W.1.2 10 (by decide) (by decide)) rfl (.ref (am 12)) W1.2.2.2.1.2.1 ?_
      refine ev_iload_1 71 d_re_readsHandle_71 ?_
      refine ev_aload_0 72 d_re_readsHandle_72 ?_
      refine gw_get 73 15 3 d_re_readsHandle_73 lk_re_9 (W.1.2 15 (by decide) (by decide)) rfl (.long (lN b)) (gsG_eq _ _ _ _) ?_
      refine gw_lst (j := it) 76 12 d_re_readsHandle_76 W.1.1 (W.1.2 12 (by decide) (by decide)) rfl (by rw [W.2.1.2.1]; exact hit) (by rw [W.2.1.2.1]; decide) ?_
      refine ev_aload_2 77 d_re_readsHandle_77 ?_
      refine gw_get 78 (100 + 3 * t) 0 d_re_readsHandle_78 lk_re_48 (hT.k0 ht) (hT.g0 ht) (.int (B 2 t)) ((hT.rk k1).f0 ht) ?_
      refine ev_bipush (12) 81 d_re_readsHandle_81 (by decide) ?_
      refine ev_icmpne 83 99 d_re_readsHandle_83 (fun c83 => ?_) (fun c83 => ?_)
      · refine ev_aload_4 99 d_re_readsHandle_99 ?_
        refine gw_get 101 (203 + 20 * i + h) 3 d_re_readsHandle_101 lk_re_149 hkK hkg (va_rf (some (hd (hof B fr0 (17 * i + b))))) a1 ?_
        refine ev_gets (v := va_rf (some (hd 1))) 104 d_re_readsHandle_104 (fun A s z => hZ9 A s z 1) ls_re_153 ?_
        refine ev_acmpeq 107 121 d_re_readsHandle_107 (fun c107 => ?_) (fun c107 => ?_)
        · refine ev_aload_4 121 d_re_readsHandle_121 ?_
          refine gw_get 123 (203 + 20 * i + h) 2 d_re_readsHandle_123 lk_re_146 hkK hkg (.int (lnB B (17 * i + b))) a2 ?_
          refine ev_ifle 126 140 d_re_readsHandle_126 (fun c126 => ?_) (fun c126 => ?_)
          · refine ev_aload_4 140 d_re_readsHandle_140 ?_
            refine ev_gets (v := .ref (hd 3)) 142 d_re_readsHandle_142 (fun A s z => hZ9 A s z 3) ls_re_158 ?_
            refine gw_put 145 (203 + 20 * i + h) 3 d_re_readsHandle_145 lp_re_149 W.1.1 hkK hkg rfl rfl ?_
            refine ev_iconst_1 148 d_re_readsHandle_148 ?_
            refine ev_zret 149 d_re_readsHandle_149 rfl ?_ ?_
            · rfl
            have h1 := hDi (hof B fr0 (17 * i + b)) 1 (hof_lt _ _ _) (by decide) (Option.some.inj c107)
            have ow := (hof1 h1).2.2
            rw [if_neg (fun z => z c50), if_neg c83, if_neg ow, if_neg (fun z => z c126)] at hq
            rw [hq]
            refine ⟨_, _, rfl, rfl, k1.l.g (Or.inr (Or.inr (Or.inr ⟨hkg, Or.inr rfl⟩))), Or.inr ⟨rfl, rfl, ⟨?_, ?_, rfl⟩, ⟨b, by omega, by omega, ?_, gsL_eq (gsG S 15 3 (.long (lN b))) 12 it (lN b), hu⟩, fun k hk => gsL_nj (gsG S 15 3 (.long (lN b))) 12 it (lN b) (Or.inr hk), (by
              exact HA.tk (S := gsL (gsG S 15 3 (.long (lN b))) 12 it (lN b)) (B' := va_up (rh_48 B it (17 * i + b)) 20 (upd (B 20) (17 * i + b) 1)) hA1 hin hh (by rw [← hxe]; exact hu) (by rw [← hxe]; exact ow) (by rw [← hxe]; exact va_up_self _ _ _) (fun f hf => rh_ne2 (by omega) (by omega)))⟩⟩
            · funext j9
              exact (gsG_nj (S := gsL (gsG S 15 3 (.long (lN b))) 12 it (lN b)) (Or.inl (by omega))).trans (gsG_nj (S := S) (k := 15) (j := 3) (k' := 14) (j' := j9) (v := .long (lN b)) (Or.inl (by decide)))
            · funext j9
              exact (gsG_nj (S := gsL (gsG S 15 3 (.long (lN b))) 12 it (lN b)) (Or.inl (by omega))).trans (gsG_nj (S := S) (k := 15) (j := 3) (k' := 10) (j' := j9) (v := .long (lN b)) (Or.inl (by decide)))
            · dsimp only
              rw [va_up_ne _ _ (by decide), rh_48, va_up_self, upd_eq]
          · refine ev_aload_0 129 d_re_readsHandle_129 ?_
            refine gw_get 130 15 2 d_re_readsHandle_130 lk_re_23 (W.1.2 15 (by decide) (by decide)) rfl (.ref (am 14)) W1.2.2.1.2.2 ?_
            refine ev_bipush (9) 133 d_re_readsHandle_133 (by decide) ?_
            refine ev_iload_3 135 d_re_readsHandle_135 ?_
            refine gw_callV 136 14 [.int 9, .int p] [] d_re_readsHandle_136 hZ (kc_re_33 (k9 := 0) (mc9 := 0) (ms9 := 0)) (hr_of hk0 (by decide) (by decide) (by decide)) (W.1.2 14 (by decide) (by decide)) rfl rfl (ht_tr_springs 9 p W1.1.1 (W.1.2 14 (by decide) (by decide))) (fun r9 w9 hw => ?_)
            obtain ⟨e1, e2⟩ := hw
            subst e1
            subst e2
            refine ev_eq (st' := [.int 0]) ?_
            refine ev_zret 139 d_re_readsHandle_139 rfl ?_ ?_
            · rfl
            have h1 := hDi (hof B fr0 (17 * i + b)) 1 (hof_lt _ _ _) (by decide) (Option.some.inj c107)
            have ow := (hof1 h1).2.2
            exact ⟨_, _, rfl, rfl, k1.l.sp, Or.inl ⟨(9, p), by rw [hq, if_neg (fun z => z c50), if_neg c83, if_neg ow, if_pos c126], rfl, sp_0 _ _ _, sp_1 _ _ _, HA.sp (S := gsL (gsG S 15 3 (.long (lN b))) 12 it (lN b)) hA1 hn6⟩⟩
        · refine ev_aload_0 110 d_re_readsHandle_110 ?_
          refine gw_get 111 15 2 d_re_readsHandle_111 lk_re_23 (W.1.2 15 (by decide) (by decide)) rfl (.ref (am 14)) W1.2.2.1.2.2 ?_
          refine ev_bipush (8) 114 d_re_readsHandle_114 (by decide) ?_
          refine ev_iload_3 116 d_re_readsHandle_116 ?_
          refine gw_callV 117 14 [.int 8, .int p] [] d_re_readsHandle_117 hZ (kc_re_33 (k9 := 0) (mc9 := 0) (ms9 := 0)) (hr_of hk0 (by decide) (by decide) (by decide)) (W.1.2 14 (by decide) (by decide)) rfl rfl (ht_tr_springs 8 p W1.1.1 (W.1.2 14 (by decide) (by decide))) (fun r9 w9 hw => ?_)
          obtain ⟨e1, e2⟩ := hw
          subst e1
          subst e2
          refine ev_eq (st' := [.int 0]) ?_
          refine ev_zret 120 d_re_readsHandle_120 rfl ?_ ?_
          · rfl
          have hs := (hof12 (B := B) (x := 17 * i + b)).mpr ⟨hu, htk⟩
          have h2 : hof B fr0 (17 * i + b) = 2 := hs.resolve_left (fun z => c107 (by rw [z]))
          exact ⟨_, _, rfl, rfl, k1.l.sp, Or.inl ⟨(8, p), by rw [hq, if_neg (fun z => z c50), if_neg c83, if_pos (hof2 h2).2], rfl, sp_0 _ _ _, sp_1 _ _ _, HA.sp (S := gsL (gsG S 15 3 (.long (lN b))) 12 it (lN b)) hA1 hn6⟩⟩
      · refine ev_aload_4 86 d_re_readsHandle_86 ?_
        refine ev_dup_a 88 d_re_readsHandle_88 ?_
        refine gw_get 89 (203 + 20 * i + h) 2 d_re_readsHandle_89 lk_re_146 hkK hkg (.int (lnB B (17 * i + b))) a2 ?_
        refine ev_iconst_1 92 d_re_readsHandle_92 ?_
        refine ev_iadd 93 d_re_readsHandle_93 ?_
        refine gw_put 94 (203 + 20 * i + h) 2 d_re_readsHandle_94 lp_re_146 W.1.1 hkK hkg (vp_nar_int _) rfl ?_
        refine ev_iconst_1 97 d_re_readsHandle_97 ?_
        refine ev_zret 98 d_re_readsHandle_98 rfl ?_ ?_
        · rfl
        rw [if_neg (fun z => z c50), if_pos c83] at hq
        rw [hq]
        refine ⟨_, _, rfl, rfl, k1.l.g (Or.inr (Or.inr (Or.inr ⟨hkg, Or.inl rfl⟩))), Or.inr ⟨rfl, rfl, ⟨?_, ?_, rfl⟩, ⟨b, by omega, by omega, ?_, gsL_eq (gsG S 15 3 (.long (lN b))) 12 it (lN b), hu⟩, fun k hk => gsL_nj (gsG S 15 3 (.long (lN b))) 12 it (lN b) (Or.inr hk), (by
          have z := HA.bo (S := gsL (gsG S 15 3 (.long (lN b))) 12 it (lN b)) (B' := va_up (rh_48 B it (17 * i + b)) 21 (upd (B 21) (17 * i + b) (B 21 (17 * i + b) + 1))) hA1 hin hh (by rw [← hxe]; exact va_up_self _ _ _) (fun f hf => rh_ne2 (by omega) (by omega))
          rw [← hxe] at z
          exact z)⟩⟩
        · funext j9
          exact (gsG_nj (S := gsL (gsG S 15 3 (.long (lN b))) 12 it (lN b)) (Or.inl (by omega))).trans (gsG_nj (S := S) (k := 15) (j := 3) (k' := 14) (j' := j9) (v := .long (lN b)) (Or.inl (by decide)))
        · funext j9
          exact (gsG_nj (S := gsL (gsG S 15 3 (.long (lN b))) 12 it (lN b)) (Or.inl (by omega))).trans (gsG_nj (S := S) (k := 15) (j := 3) (k' := 10) (j' := j9) (v := .long (lN b)) (Or.inl (by decide)))
        · dsimp only
          rw [va_up_ne _ _ (by decide), rh_48, va_up_self, upd_eq]
    · refine ev_aload_0 53 d_re_readsHandle_53 ?_
      refine gw_get 54 15 2 d_re_readsHandle_54 lk_re_23 (W.1.2 15 (by decide) (by decide)) rfl (.ref (am 14)) W1.2.2.1.2.2 ?_
      refine ev_bipush (7) 57 d_re_readsHandle_57 (by decide) ?_
      refine ev_iload_3 59 d_re_readsHandle_59 ?_
      refine gw_callV 60 14 [.int 7, .int p] [] d_re_readsHandle_60 hZ (kc_re_33 (k9 := 0) (mc9 := 0) (ms9 := 0)) (hr_of hk0 (by decide) (by decide) (by decide)) (W.1.2 14 (by decide) (by decide)) rfl rfl (ht_tr_springs 7 p W1.1.1 (W.1.2 14 (by decide) (by decide))) (fun r9 w9 hw => ?_)
      obtain ⟨e1, e2⟩ := hw
      subst e1
      subst e2
      refine ev_eq (st' := [.int 0]) ?_
      refine ev_zret 63 d_re_readsHandle_63 rfl ?_ ?_
      · rfl
      exact ⟨_, _, rfl, rfl, k1.sp, Or.inl ⟨(7, p), by rw [hq, if_pos c50], rfl, sp_0 _ _ _, sp_1 _ _ _, hA1.sp hn6⟩⟩
  refine ev_aload_0 0 d_re_readsHandle_0 ?_
  refine ev_iload_3 1 d_re_readsHandle_1 ?_
  refine ev_iconst_1 2 d_re_readsHandle_2 ?_
  refine gw_callV 3 15 [.int p, .int 1] [] d_re_readsHandle_3 hZ (kc_re_96 (k9 := 2) (mc9 := 0) (ms9 := 0)) (hr_of hk2 (by decide) (by decide) (by decide)) (W.1.2 15 (by decide) (by decide)) rfl rfl (ht_re_readsBytes p 1 hZ hNw W hM h8 (by omega) (by decide)) (fun r9 w9 hw => ?_)
  obtain ⟨y, S9, e1, e2, hb9⟩ := hw
  subst e1
  subst e2
  refine ev_eq (st' := [.int y]) ?_
  refine ev_ifne 6 11 d_re_readsHandle_6 (fun c6 => ?_) (fun c6 => ?_)
  · obtain ⟨hr, e9⟩ : mo_rg p 1 = none ∧ S9 = gsG S 15 3 (.long (lN (by_w B i p 1))) := by
      rcases hb9 with ⟨q, v, h1, h2, h3⟩ | ⟨h1, h2, h3⟩
      · exact absurd h2 c6
      · exact ⟨h1, h3⟩
    subst e9
    obtain ⟨-, g⟩ := rg_in hr
    rw [n_a0] at g
    obtain ⟨g1, g2⟩ := bb_p h8 W.2.2.2.2.2 g
    have eb : by_w B i p 1 = b := by rw [by_w, by_w, n_a0, hb]; simp
    rw [eb]
    rw [← hb] at g1 g2
    have k1 : rkp S (gsG S 15 3 (.long (lN b))) := (rkp.rf S).by
    have W1 := W.rk k1
    have hA1 : HA am hd (gsG S 15 3 (.long (lN b))) B fr0 (lnB B) ni := hA.by hn6
    refine ev_aload_0 11 d_re_readsHandle_11 ?_
    refine gw_get 12 15 0 d_re_readsHandle_12 lk_re_15 (W.1.2 15 (by decide) (by decide)) rfl (.ref (am (200 + 20 * i))) W1.2.2.1.1 ?_
    refine ev_aload_0 15 d_re_readsHandle_15 ?_
    refine gw_get 16 15 3 d_re_readsHandle_16 lk_re_9 (W.1.2 15 (by decide) (by decide)) rfl (.long (lN b)) (gsG_eq _ _ _ _) ?_
    refine ev_l2i 19 d_re_readsHandle_19 ?_
    refine ev_topi (nI b) (lN_32 (by omega)) ?_
    refine gw_callV 20 (200 + 20 * i) [.int (nI b)] [] d_re_readsHandle_20 hZ (kc_re_139 (k9 := 0) (mc9 := 0) (ms9 := 0)) (hr_of hk0 (by decide) (by decide) (by decide)) W1.2.2.2.2.1.1 (gk_in i W.2.2.2.2.2).1 rfl (ht_in_handleInUse i (nI b) hd hZ9 hDi W.2.2.2.2.2 W1.2.2.2.2.1 (fun h => hof B fr0 (17 * i + h + 1)) (fun h hh => ⟨hof_lt _ _ _, (hA1 i h hin hh).1⟩)) (fun r9 w9 hw => ?_)
    obtain ⟨e1, hw⟩ := hw
    subst e1
    rcases hw with ⟨hx, e2⟩ | ⟨j, hj, hx, hw⟩
    · subst e2
      refine ev_eq (LN g g2 g1 (fun z => ?_))
      rcases hx with hx | hx
      · exact absurd (n_lt b 1 hx) (by omega)
      · exact absurd (n_nle b 16 hx) (by omega)
    · have ej : b = j + 1 := n_eq b (j + 1) hx
      rcases hw with ⟨hx2, e2⟩ | ⟨hx2, e2⟩
      · subst e2
        obtain ⟨u1, u2⟩ := hof12.mp hx2
        exact ev_eq (LR g g2 g1 j hj ej (by rw [ej]; exact u1) (by rw [ej]; exact u2))
      · subst e2
        exact ev_eq (LN g g2 g1 (fun z => hx2 (hof12.mpr (by rw [ej] at z; exact ⟨z.2.2.1, z.2.2.2⟩))))
  · obtain ⟨q, v, hr, e9⟩ : ∃ q v, mo_rg p 1 = some q ∧ S9 = sp_S (gsG S 15 3 v) 1 q := by
      rcases hb9 with ⟨q, v, h1, h2, h3⟩ | ⟨h1, h2, h3⟩
      · exact ⟨q, v, h1, h3⟩
      · exact absurd (h2.symm.trans c6) (by decide)
    subst e9
    have hp : (p < 0 ∨ 255 < p) ∧ p = q := by
      rw [mo_rg, show mo_rg p 0 = none from rfl] at hr
      dsimp only at hr
      rw [n_a0] at hr
      split at hr
      · rename_i z; exact ⟨z, Option.some.inj hr⟩
      · cases hr
    obtain ⟨hp, eq9⟩ := hp
    subst eq9
    refine ev_iconst_0 9 d_re_readsHandle_9 ?_
    refine ev_zret 10 d_re_readsHandle_10 rfl ?_ ?_
    · rfl
    exact ⟨_, _, rfl, rfl, (rkp.by (rkp.rf S)).sp, Or.inl ⟨(1, p), by rw [mo_rh, if_pos hp], rfl, sp_0 _ _ _, sp_1 _ _ _, (hA.by hn6).sp hn6⟩⟩
