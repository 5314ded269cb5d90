def hb_by (w : Int64) (j : Nat) : Int32 := (w.toUInt64 >>> ((8 * nI j).toInt64.toUInt64 &&& Int64.toUInt64 63)).toInt64.toInt32 &&& 255
/-- the bytes of a long are stored from a on -/
def hb_sb (S : gS) (q a : Nat) (w : Int64) : Nat → gS
  | 0 => S
  | j + 1 => gsA (hb_sb S q a w j) q (a + j) (hb_by w j)
theorem hb_sb_1 (S : gS) (q a : Nat) (w : Int64) : ∀ j, (hb_sb S q a w j).1 = S.1 := by
  intro j
  induction j with
  | zero => rfl
  | succ j ih => exact ih

set_option maxHeartbeats 4000000 in
set_option maxRecDepth 100000 in
theorem ht_in_storeBytes {l : Launch} {D : va_G} {tl : List (ClassId × FieldType)} {Z : (Nat → Prop) → State → Heap → Prop} {K : List Nat} {am : Nat → Nat} {ks : Nat → ClassId} {N : Nat → Nat} {S : gS} {k : Nat} (i : Nat) (a : Nat) (n : Nat) (w : Int64) (hZ : ev_Zok Z) (hNw : hc_ZN Z) (hN : va_nd K = true) (hi : i < 6) (ok : in_ok K am N S i) (ha : a ≤ 256) (hn : n ≤ 1000) (hk0 : 0 < k) : MT (hc_π l D ks tl Z) (m_in_storeBytes k 0 0) 0 0 [.ref (am (200 + 20 * i)), .int (nI a), .int (nI n), .long w] (gw K am ks N S) (fun r w9 => r = none ∧ w9 = gw K am ks N (hb_sb S (201 + 20 * i) a w (min n (256 - a)))) := by
  refine mt_of pl_in rfl (Nat.le_of_ble_eq_true rfl) (ev_eq (lv' := [some (.ref (am (200 + 20 * i))), some (.int (nI a)), some (.int (nI n)), some (.long w), none, none]) ?_)
  have L3 : ∀ m j : Nat, n - j < m → j ≤ n → a + j ≤ 256 → EV (hc_π l D ks tl Z) (m_in_storeBytes k 0 0) (ev_E (hc_π l D ks tl Z) 0 0 (fun r w9 => r = none ∧ w9 = gw K am ks N (hb_sb S (201 + 20 * i) a w (min n (256 - a))))) 0 0 3 [some (.ref (am (200 + 20 * i))), some (.int (nI a)), some (.int (nI n)), some (.long w), none, some (.int (nI j))] [] (gw K am ks N (hb_sb S (201 + 20 * i) a w j)) := by
    intro m
    induction m with
    | zero => intro j h; omega
    | succ m ih =>
      intro j hm hj ha2
      refine ev_iload_5 3 d_in_storeBytes_3 ?_
      refine ev_iload_2 5 d_in_storeBytes_5 ?_
      refine ev_icmpge 6 46 d_in_storeBytes_6 (fun c6 => ?_) (fun c6 => ?_)
      · have h6 := n_le n j c6
        have ej : min n (256 - a) = j := by omega
        refine ev_vret 46 d_in_storeBytes_46 rfl ?_
        exact ⟨rfl, by rw [ej]⟩
      · have h6 := n_nle n j c6
        refine ev_iload_1 9 d_in_storeBytes_9 ?_
        refine ev_iload_5 10 d_in_storeBytes_10 ?_
        refine ev_iadd 12 d_in_storeBytes_12 ?_
        refine ev_topi (nI (a + j)) (nI_add a j) ?_
        refine ev_callSN 13 [.int (nI (a + j))] [] d_in_storeBytes_13 hZ (kn_in_29 (k9 := 0) (mc9 := 0) (ms9 := 0) hNw) (hr_of hk0 (by decide) (by decide) (by decide)) (ht_hc_isPlace (nI (a + j))) (fun r w9 hw => ?_)
        obtain ⟨e1, y, e2, hy⟩ := hw
        subst e1
        subst e2
        refine ev_eq (st' := [.int y]) ?_
        refine ev_ifeq 16 46 d_in_storeBytes_16 (fun c16 => ?_) (fun c16 => ?_)
        · have hb := mo_b0 hy c16
          have ej : min n (256 - a) = j := by
            have : ¬ a + j < 256 := fun z => hb ⟨nI_pos (by omega), fun y9 => absurd (n_le 256 (a + j) y9) (by omega)⟩
            omega
          refine ev_vret 46 d_in_storeBytes_46 rfl ?_
          exact ⟨rfl, by rw [ej]⟩
        · have hb := mo_b1 hy c16
          have h16 : a + j < 256 := by have := n_nle 256 (a + j) hb.2; omega
          refine ev_aload_0 19 d_in_storeBytes_19 ?_
          refine gw_get 20 (200 + 20 * i) 0 d_in_storeBytes_20 lk_in_9 ok.1 (gk_in i hi).1 (.ref (am (201 + 20 * i))) (by rw [hb_sb_1]; exact ok.2.2.2.1) ?_
          refine ev_iload_1 23 d_in_storeBytes_23 ?_
          refine ev_iload_5 24 d_in_storeBytes_24 ?_
          refine ev_iadd 26 d_in_storeBytes_26 ?_
          refine ev_lload_3 27 d_in_storeBytes_27 ?_
          refine ev_bipush (8) 28 d_in_storeBytes_28 (by decide) ?_
          refine ev_iload_5 30 d_in_storeBytes_30 ?_
          refine ev_imul 32 d_in_storeBytes_32 ?_
          refine ev_lushr 33 d_in_storeBytes_33 ?_
          refine ev_l2i 34 d_in_storeBytes_34 ?_
          refine ev_sipush (255) 35 d_in_storeBytes_35 (by decide) ?_
          refine ev_iand 38 d_in_storeBytes_38 ?_
          refine ev_sndi (nI (a + j)) (nI_add a j) ?_
          refine gw_ist (j := a + j) 39 (201 + 20 * i) d_in_storeBytes_39 hN ok.2.1 (gk_in i hi).2.1 (by rw [ok.2.2.2.2.2.1]; exact h16) (by rw [ok.2.2.2.2.2.1]; decide) ?_
          refine ev_iinc_5 40 d_in_storeBytes_40 ?_ (hn := by exact Nat.le_of_ble_eq_true rfl)
          refine ev_goto 43 3 d_in_storeBytes_43 ?_
          exact ev_eq (ih (j + 1) (by omega) (by omega) (by omega)) (h1 := by rw [n_i1])
  refine ev_iconst_0 0 d_in_storeBytes_0 ?_
  refine ev_istore_5 1 d_in_storeBytes_1 ?_ (hn := by exact Nat.le_of_ble_eq_true rfl)
  exact ev_eq (L3 (n + 1) 0 (by omega) (by omega) (by omega))
