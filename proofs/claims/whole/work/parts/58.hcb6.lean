/-- a loan ends -/
def hl_e0 (S : gS) (hd : Nat → Nat) (x : Nat) : gS := gsG S x 3 (.ref (hd 0))

set_option maxHeartbeats 4000000 in
set_option maxRecDepth 100000 in
theorem ht_ha_endLoanN {l : Launch} {D : va_G} {tl : List (ClassId × FieldType)} {Z : (Nat → Prop) → State → Heap → Prop} {K : List Nat} {am : Nat → Nat} {ks : Nat → ClassId} {N : Nat → Nat} {S : gS} {k : Nat} (x : Nat) (hd : Nat → Nat) (hZ : ho_Z Z hd) (hN : va_nd K = true) (hx : x ∈ K) (hg : gk x = 4) (hl : S.1 x 4 = .null) : MT (hc_π l D ks tl Z) (m_ha_endLoan k 0 0) 0 0 [.ref (am x)] (gw K am ks N S) (fun r w => r = none ∧ w = gw K am ks N (hl_e0 S hd x)) := by
  refine mt_of pl_ha rfl (Nat.le_of_ble_eq_true rfl) (ev_eq (lv' := [some (.ref (am x))]) ?_)
  refine ev_aload_0 0 d_ha_endLoan_0 ?_
  refine ev_gets (v := .ref (hd 0)) 1 d_ha_endLoan_1 (fun A s z => hZ A s z 0) ls_ha_21 ?_
  refine gw_put 4 (x) 3 d_ha_endLoan_4 lp_ha_27 hN hx hg rfl rfl ?_
  refine ev_aload_0 7 d_ha_endLoan_7 ?_
  refine gw_get 8 x 4 d_ha_endLoan_8 lk_ha_30 hx hg (.null) (Eq.trans (gsG_nj (Or.inr (by decide))) hl) ?_
  refine ev_ifnullN 11 27 d_ha_endLoan_11 ?_
  refine ev_vret 27 d_ha_endLoan_27 rfl ?_
  exact ⟨rfl, rfl⟩

set_option maxHeartbeats 4000000 in
set_option maxRecDepth 100000 in
theorem ht_ha_endLoanR {l : Launch} {D : va_G} {tl : List (ClassId × FieldType)} {Z : (Nat → Prop) → State → Heap → Prop} {K : List Nat} {am : Nat → Nat} {ks : Nat → ClassId} {N : Nat → Nat} {S : gS} {k : Nat} (x : Nat) (hd : Nat → Nat) (hZ : ho_Z Z hd) (hN : va_nd K = true) (hx : x ∈ K) (hg : gk x = 4) (z : Nat) (hz : z ∈ K) (hgz : gk z = 4) (hl : S.1 x 4 = .ref (am z)) (v : Int32) (hv : S.1 z 2 = .int v) : MT (hc_π l D ks tl Z) (m_ha_endLoan k 0 0) 0 0 [.ref (am x)] (gw K am ks N S) (fun r w => r = none ∧ w = gw K am ks N (gsG (hl_e0 S hd x) z 2 (.int (v - 1)))) := by
  refine mt_of pl_ha rfl (Nat.le_of_ble_eq_true rfl) (ev_eq (lv' := [some (.ref (am x))]) ?_)
  refine ev_aload_0 0 d_ha_endLoan_0 ?_
  refine ev_gets (v := .ref (hd 0)) 1 d_ha_endLoan_1 (fun A s z => hZ A s z 0) ls_ha_21 ?_
  refine gw_put 4 (x) 3 d_ha_endLoan_4 lp_ha_27 hN hx hg rfl rfl ?_
  refine ev_aload_0 7 d_ha_endLoan_7 ?_
  refine gw_get 8 x 4 d_ha_endLoan_8 lk_ha_30 hx hg (.ref (am z)) (Eq.trans (gsG_nj (Or.inr (by decide))) hl) ?_
  refine ev_ifnull 11 d_ha_endLoan_11 ?_
  refine ev_aload_0 14 d_ha_endLoan_14 ?_
  refine gw_get 15 x 4 d_ha_endLoan_15 lk_ha_30 hx hg (.ref (am z)) (Eq.trans (gsG_nj (Or.inr (by decide))) hl) ?_
  refine ev_dup_a 18 d_ha_endLoan_18 ?_
  refine gw_get 19 z 2 d_ha_endLoan_19 lk_ha_18 hz hgz (.int v) (Eq.trans (gsG_nj (Or.inr (by decide))) hv) ?_
  refine ev_iconst_1 22 d_ha_endLoan_22 ?_
  refine ev_isub 23 d_ha_endLoan_23 ?_
  refine gw_put 24 (z) 2 d_ha_endLoan_24 lp_ha_18 hN hz hgz (vp_nar_int _) rfl ?_
  refine ev_vret 27 d_ha_endLoan_27 rfl ?_
  exact ⟨rfl, rfl⟩

def hh_ch (S : gS) (hd ho : Nat → Nat) (i o c : Nat) : Nat → gS
  | 0 => S
  | j + 1 => if ho j = o then gsG (hh_ch S hd ho i o c j) (203 + 20 * i + j) 3 (.ref (hd c)) else hh_ch S hd ho i o c j
theorem hh_ch_2 (S : gS) (hd ho : Nat → Nat) (i o c : Nat) : ∀ j, (hh_ch S hd ho i o c j).2 = S.2 := by
  intro j
  induction j with
  | zero => rfl
  | succ j ih => rw [hh_ch]; split <;> exact ih
theorem hh_ch_1 (S : gS) (hd ho : Nat → Nat) (i o c : Nat) {q p : Nat} : ∀ j, (p ≠ 3 ∨ ∀ h, h < j → q ≠ 203 + 20 * i + h) → (hh_ch S hd ho i o c j).1 q p = S.1 q p := by
  intro j
  induction j with
  | zero => intro _; rfl
  | succ j ih =>
    intro h
    have h1 := ih (h.elim Or.inl (fun z => Or.inr (fun k hk => z k (by omega))))
    rw [hh_ch]
    split
    · refine Eq.trans (gsG_nj ?_) h1
      rcases h with h | h
      · exact Or.inr h
      · exact Or.inl (h j (by omega))
    · exact h1

set_option maxHeartbeats 4000000 in
set_option maxRecDepth 100000 in
theorem ht_in_changeHoldings {l : Launch} {D : va_G} {tl : List (ClassId × FieldType)} {Z : (Nat → Prop) → State → Heap → Prop} {K : List Nat} {am : Nat → Nat} {ks : Nat → ClassId} {N : Nat → Nat} {S : gS} {k : Nat} (hd : Nat → Nat) (i : Nat) (o9 : Nat) (c9 : Nat) (hZ : ho_Z Z hd) (hDi : ho_D hd) (hi : i < 6) (ok : in_ok K am N S i) (ho : Nat → Nat) (hho : ∀ h, h < 16 → ho h < 5 ∧ S.1 (203 + 20 * i + h) 3 = .ref (hd (ho h))) (hN : va_nd K = true) (ho9 : o9 < 5) : MT (hc_π l D ks tl Z) (m_in_changeHoldings k 0 0) 0 0 [.ref (am (200 + 20 * i)), .ref (hd o9), .ref (hd c9)] (gw K am ks N S) (fun r w => r = none ∧ w = gw K am ks N (hh_ch S hd ho i o9 c9 16)) := by
  refine mt_of pl_in rfl (Nat.le_of_ble_eq_true rfl) (ev_eq (lv' := [some (.ref (am (200 + 20 * i))), some (.ref (hd o9)), some (.ref (hd c9)), none]) ?_)
  have L2 : ∀ m j : Nat, 16 - j < m → j ≤ 16 → EV (hc_π l D ks tl Z) (m_in_changeHoldings k 0 0) (ev_E (hc_π l D ks tl Z) 0 0 (fun r w => r = none ∧ w = gw K am ks N (hh_ch S hd ho i o9 c9 16))) 0 0 2 [some (.ref (am (200 + 20 * i))), some (.ref (hd o9)), some (.ref (hd c9)), some (.int (nI j))] [] (gw K am ks N (hh_ch S hd ho i o9 c9 j)) := by
    intro m
    induction m with
    | zero => intro j h; omega
    | succ m ih =>
      intro j hm hj
      refine ev_iload_3 2 d_in_changeHoldings_2 ?_
      refine ev_bipush (16) 3 d_in_changeHoldings_3 (by decide) ?_
      refine ev_icmpge 5 37 d_in_changeHoldings_5 (fun c5 => ?_) (fun c5 => ?_)
      · have h5 := n_le 16 j c5
        obtain rfl : j = 16 := by omega
        refine ev_vret 37 d_in_changeHoldings_37 rfl ?_
        exact ⟨rfl, rfl⟩
      · have h5 := n_nle 16 j c5
        refine ev_aload_0 8 d_in_changeHoldings_8 ?_
        refine gw_get 9 (200 + 20 * i) 1 d_in_changeHoldings_9 lk_in_17 ok.1 (gk_in i hi).1 (.ref (am (202 + 20 * i))) (by rw [hh_ch_1 S hd ho i o9 c9 j (Or.inl (by decide))]; exact ok.2.2.2.2.1) ?_
        refine ev_iload_3 12 d_in_changeHoldings_12 ?_
        refine gw_qld (j := j) 13 (202 + 20 * i) d_in_changeHoldings_13 ok.2.2.1 (gk_in i hi).2.2.1 (by rw [ok.2.2.2.2.2.2.1]; omega) (by rw [ok.2.2.2.2.2.2.1]; decide) (some (am (203 + 20 * i + j))) (by rw [hh_ch_2]; exact (ok.2.2.2.2.2.2.2 j (by omega)).2) ?_
        refine gw_get 14 (203 + 20 * i + j) 3 d_in_changeHoldings_14 lk_in_33 (ok.2.2.2.2.2.2.2 j (by omega)).1 ((gk_in i hi).2.2.2 j (by omega)) (va_rf (some (hd (ho j)))) (by rw [hh_ch_1 S hd ho i o9 c9 j (Or.inr (fun h9 hh => by omega))]; exact (hho j (by omega)).2) ?_
        refine ev_aload_1 17 d_in_changeHoldings_17 ?_
        refine ev_eq (st' := [va_rf (some (hd o9)), va_rf (some (hd (ho j)))]) ?_
        refine ev_acmpne 18 31 d_in_changeHoldings_18 (fun c18 => ?_) (fun c18 => ?_)
        · refine ev_iinc_3 31 d_in_changeHoldings_31 ?_ (hn := by exact Nat.le_of_ble_eq_true rfl)
          refine ev_goto 34 2 d_in_changeHoldings_34 ?_
          exact ev_eq (ih (j + 1) (by omega) (by omega)) (h1 := by rw [n_i1]) (h3 := by rw [hh_ch, if_neg (fun z => c18 (by rw [z]))])
        · refine ev_aload_0 21 d_in_changeHoldings_21 ?_
          refine gw_get 22 (200 + 20 * i) 1 d_in_changeHoldings_22 lk_in_17 ok.1 (gk_in i hi).1 (.ref (am (202 + 20 * i))) (by rw [hh_ch_1 S hd ho i o9 c9 j (Or.inl (by decide))]; exact ok.2.2.2.2.1) ?_
          refine ev_iload_3 25 d_in_changeHoldings_25 ?_
          refine gw_qld (j := j) 26 (202 + 20 * i) d_in_changeHoldings_26 ok.2.2.1 (gk_in i hi).2.2.1 (by rw [ok.2.2.2.2.2.2.1]; omega) (by rw [ok.2.2.2.2.2.2.1]; decide) (some (am (203 + 20 * i + j))) (by rw [hh_ch_2]; exact (ok.2.2.2.2.2.2.2 j (by omega)).2) ?_
          refine ev_aload_2 27 d_in_changeHoldings_27 ?_
          refine gw_put 28 (203 + 20 * i + j) 3 d_in_changeHoldings_28 lp_in_33 hN (ok.2.2.2.2.2.2.2 j (by omega)).1 ((gk_in i hi).2.2.2 j (by omega)) rfl rfl ?_
          refine ev_iinc_3 31 d_in_changeHoldings_31 ?_ (hn := by exact Nat.le_of_ble_eq_true rfl)
          refine ev_goto 34 2 d_in_changeHoldings_34 ?_
          have hz : ho j = o9 := hDi (ho j) o9 (hho j (by omega)).1 ho9 (Option.some.inj c18)
          exact ev_eq (ih (j + 1) (by omega) (by omega)) (h1 := by rw [n_i1]) (h3 := by rw [hh_ch, if_pos hz])
  refine ev_iconst_0 0 d_in_changeHoldings_0 ?_
  refine ev_istore_3 1 d_in_changeHoldings_1 ?_ (hn := by exact Nat.le_of_ble_eq_true rfl)
  exact ev_eq (L2 17 0 (by omega) (by omega))
