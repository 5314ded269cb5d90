set_option maxHeartbeats 4000000 in
set_option maxRecDepth 100000 in
theorem ht_tr_springs {l : Launch} {D : va_G} {tl : List (ClassId × FieldType)} {Z : (Nat → Prop) → State → Heap → Prop} {K : List Nat} {am : Nat → Nat} {ks : Nat → ClassId} {N : Nat → Nat} {S : gS} {k : Nat} (c : Int32) (p : Int32) (hN : va_nd K = true) (h14 : 14 ∈ K) : MT (hc_π l D ks tl Z) (m_tr_springs k 0 0) 0 0 [.ref (am 14), .int c, .int p] (gw K am ks N S) (fun r w => r = some (.int 0) ∧ w = gw K am ks N (gsG (gsG S 14 0 (.int c)) 14 1 (.int p))) := by
  refine mt_of pl_tr rfl (Nat.le_of_ble_eq_true rfl) (ev_eq (lv' := [some (.ref (am 14)), some (.int c), some (.int p)]) ?_)
  refine ev_aload_0 0 d_tr_springs_0 ?_
  refine ev_iload_1 1 d_tr_springs_1 ?_
  refine gw_put 2 (14) 0 d_tr_springs_2 lp_tr_7 hN h14 rfl (vp_nar_int _) rfl ?_
  refine ev_aload_0 5 d_tr_springs_5 ?_
  refine ev_iload_2 6 d_tr_springs_6 ?_
  refine gw_put 7 (14) 1 d_tr_springs_7 lp_tr_13 hN h14 rfl (vp_nar_int _) rfl ?_
  refine ev_iconst_0 10 d_tr_springs_10 ?_
  refine ev_zret 11 d_tr_springs_11 rfl ?_ ?_
  · rfl
  exact ⟨rfl, rfl⟩

/-- the enum's constants: FREE, OWNED, LENT, TAKEN, ARRIVING -/
def ho_nm (i : Nat) : String := match i with | 0 => "FREE" | 1 => "OWNED" | 2 => "LENT" | 3 => "TAKEN" | _ => "ARRIVING"
def ho_Z (Z : (Nat → Prop) → State → Heap → Prop) (hd : Nat → Nat) : Prop := ∀ (A : Nat → Prop) (s : State), Z A s s.heap → ∀ i, va_Z "HostedCalls$Holding" (ho_nm i) "LHostedCalls$Holding;" (.ref (hd i)) A s s.heap
def ho_D (hd : Nat → Nat) : Prop := ∀ i j, i < 5 → j < 5 → hd i = hd j → i = j
/-- an instance: its parts -/
def in_ok (K : List Nat) (am : Nat → Nat) (N : Nat → Nat) (S : gS) (i : Nat) : Prop := 200 + 20 * i ∈ K ∧ 201 + 20 * i ∈ K ∧ 202 + 20 * i ∈ K ∧ S.1 (200 + 20 * i) 0 = .ref (am (201 + 20 * i)) ∧ S.1 (200 + 20 * i) 1 = .ref (am (202 + 20 * i)) ∧ N (201 + 20 * i) = 256 ∧ N (202 + 20 * i) = 16 ∧ ∀ h, h < 16 → 203 + 20 * i + h ∈ K ∧ S.2.2.1 (202 + 20 * i) h = some (am (203 + 20 * i + h))
theorem gk_in (i : Nat) (h : i < 6) : gk (200 + 20 * i) = 5 ∧ gk (201 + 20 * i) = 20 ∧ gk (202 + 20 * i) = 24 ∧ ∀ j, j < 16 → gk (203 + 20 * i + j) = 4 := by
  obtain rfl | rfl | rfl | rfl | rfl | rfl : i = 0 ∨ i = 1 ∨ i = 2 ∨ i = 3 ∨ i = 4 ∨ i = 5 := by omega
  all_goals exact ⟨by decide, by decide, by decide, by decide⟩
/-- the lowest free one of n handles from the highest down, as it stands in the fields; 0: none -/
def hh_fr (ho : Nat → Nat) : Nat → Nat
  | 0 => 0
  | n + 1 => if ho (16 - (n + 1)) = 0 then 16 - (n + 1) + 1 else hh_fr ho n
def hh_us (ho : Nat → Nat) : Nat → Nat
  | 0 => 0
  | n + 1 => if ho n = 0 then hh_us ho n else hh_us ho n + 1

def hh_ni (n : Nat) : Int32 := if n = 0 then -1 else nI n

set_option maxHeartbeats 4000000 in
set_option maxRecDepth 100000 in
theorem ht_in_lowestFreeHandle {l : Launch} {D : va_G} {tl : List (ClassId × FieldType)} {Z : (Nat → Prop) → State → Heap → Prop} {K : List Nat} {am : Nat → Nat} {ks : Nat → ClassId} {N : Nat → Nat} {S : gS} {k : Nat} (i : Nat) (hd : Nat → Nat) (hZ : ho_Z Z hd) (hDi : ho_D hd) (hi : i < 6) (ok : in_ok K am N S i) (ho : Nat → Nat) (hho : ∀ h, h < 16 → ho h < 5 ∧ S.1 (203 + 20 * i + h) 3 = .ref (hd (ho h))) : MT (hc_π l D ks tl Z) (m_in_lowestFreeHandle k 0 0) 0 0 [.ref (am (200 + 20 * i))] (gw K am ks N S) (fun r w => w = gw K am ks N S ∧ ∃ y, r = some (.int y) ∧ y = hh_ni (hh_fr ho 16)) := by
  refine mt_of pl_in rfl (Nat.le_of_ble_eq_true rfl) (ev_eq (lv' := [some (.ref (am (200 + 20 * i))), none]) ?_)
  have L2 : ∀ m j : Nat, 16 - j < m → j ≤ 16 → hh_fr ho (16 - j) = hh_fr ho 16 → EV (hc_π l D ks tl Z) (m_in_lowestFreeHandle k 0 0) (ev_E (hc_π l D ks tl Z) 0 0 (fun r w => w = gw K am ks N S ∧ ∃ y, r = some (.int y) ∧ y = hh_ni (hh_fr ho 16))) 0 0 2 [some (.ref (am (200 + 20 * i))), some (.int (nI j))] [] (gw K am ks N S) := by
    intro m
    induction m with
    | zero => intro j h; omega
    | succ m ih =>
      intro j hm hj hf
      refine ev_iload_1 2 d_in_lowestFreeHandle_2 ?_
      refine ev_bipush (16) 3 d_in_lowestFreeHandle_3 (by decide) ?_
      refine ev_icmpge 5 33 d_in_lowestFreeHandle_5 (fun c5 => ?_) (fun c5 => ?_)
      · have h5 := n_le 16 j c5
        refine ev_iconst_m1 33 d_in_lowestFreeHandle_33 ?_
        refine ev_iret 34 d_in_lowestFreeHandle_34 rfl ?_
        exact ⟨rfl, _, rfl, by rw [← hf, show 16 - j = 0 by omega]; rfl⟩
      · have h5 := n_nle 16 j c5
        refine ev_aload_0 8 d_in_lowestFreeHandle_8 ?_
        refine gw_get 9 (200 + 20 * i) 1 d_in_lowestFreeHandle_9 lk_in_17 ok.1 (gk_in i hi).1 (.ref (am (202 + 20 * i))) ok.2.2.2.2.1 ?_
        refine ev_iload_1 12 d_in_lowestFreeHandle_12 ?_
        refine gw_qld (j := j) 13 (202 + 20 * i) d_in_lowestFreeHandle_13 ok.2.2.1 (gk_in i hi).2.2.1 (by rw [ok.2.2.2.2.2.2.1]; omega) (by rw [ok.2.2.2.2.2.2.1]; decide) _ ((ok.2.2.2.2.2.2.2 j (by omega)).2) ?_
        refine gw_get 14 (203 + 20 * i + j) 3 d_in_lowestFreeHandle_14 lk_in_33 (ok.2.2.2.2.2.2.2 j (by omega)).1 ((gk_in i hi).2.2.2 j (by omega)) (va_rf (some (hd (ho j)))) (hho j (by omega)).2 ?_
        refine ev_gets (v := va_rf (some (hd 0))) 17 d_in_lowestFreeHandle_17 (fun A s z => hZ A s z 0) ls_in_45 ?_
        refine ev_acmpne 20 27 d_in_lowestFreeHandle_20 (fun c20 => ?_) (fun c20 => ?_)
        · refine ev_iinc_1 27 d_in_lowestFreeHandle_27 ?_ (hn := by exact Nat.le_of_ble_eq_true rfl)
          refine ev_goto 30 2 d_in_lowestFreeHandle_30 ?_
          rw [show 16 - j = (16 - (j + 1)) + 1 by omega, hh_fr, show 16 - (16 - (j + 1) + 1) = j by omega] at hf
          rw [if_neg (fun z => c20 (by rw [z]))] at hf
          exact ev_eq (ih (j + 1) (by omega) (by omega) hf) (h1 := by rw [n_i1])
        · refine ev_iload_1 23 d_in_lowestFreeHandle_23 ?_
          refine ev_iconst_1 24 d_in_lowestFreeHandle_24 ?_
          refine ev_iadd 25 d_in_lowestFreeHandle_25 ?_
          refine ev_iret 26 d_in_lowestFreeHandle_26 rfl ?_
          rw [show 16 - j = (16 - (j + 1)) + 1 by omega, hh_fr, show 16 - (16 - (j + 1) + 1) = j by omega] at hf
          have hz : ho j = 0 := hDi (ho j) 0 (hho j (by omega)).1 (by decide) (Option.some.inj c20)
          rw [if_pos hz] at hf
          exact ⟨rfl, _, rfl, by rw [← hf]; exact nI_1 j⟩
  refine ev_iconst_0 0 d_in_lowestFreeHandle_0 ?_
  refine ev_istore_1 1 d_in_lowestFreeHandle_1 ?_ (hn := by exact Nat.le_of_ble_eq_true rfl)
  exact ev_eq (L2 17 0 (by omega) (by omega) rfl)
