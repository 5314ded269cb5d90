def ob_of (e x w pa : Int32) : Int32 := if x = 9 then (e + pa - 1) &&& (-pa) else if x = 10 then w else 0

set_option maxHeartbeats 4000000 in
set_option maxRecDepth 100000 in
theorem ht_ty_offsetBehind {l : Launch} {D : va_G} {tl : List (ClassId × FieldType)} {Z : (Nat → Prop) → State → Heap → Prop} {K : List Nat} {am : Nat → Nat} {ks : Nat → ClassId} {N : Nat → Nat} {S : gS} {k : Nat} (e : Int32) (x : Int32) (w : Int32) (pa : Int32) (hZ : ev_Zok Z) (hNw : hc_ZN Z) (hk0 : 0 < k) : MT (hc_π l D ks tl Z) (m_ty_offsetBehind k 0 0) 0 0 [.int e, .int x, .int w, .int pa] (gw K am ks N S) (fun r w9 => w9 = gw K am ks N S ∧ r = some (.int (ob_of e x w pa))) := by
  refine mt_of pl_ty rfl (Nat.le_of_ble_eq_true rfl) (ev_eq (lv' := [some (.int e), some (.int x), some (.int w), some (.int pa)]) ?_)
  refine ev_iload_1 0 d_ty_offsetBehind_0 ?_
  by_cases e1_0 : x = 9
  · refine ev_topi 9 e1_0 ?_
    refine ev_look 1 28 d_ty_offsetBehind_1 (by decide) rfl ?_
    refine ev_iload_0 28 d_ty_offsetBehind_28 ?_
    refine ev_iload_3 29 d_ty_offsetBehind_29 ?_
    refine ev_callSN 30 [.int e, .int pa] [] d_ty_offsetBehind_30 hZ (kn_ty_55 (k9 := 0) (mc9 := 0) (ms9 := 0) hNw) (hr_of hk0 (by decide) (by decide) (by decide)) (ht_hc_alignedFrom e pa) (fun r w9 hw => ?_)
    obtain ⟨e1, y, e2, hy⟩ := hw
    subst e1
    subst e2
    subst hy
    refine ev_eq (st' := [.int ((e + pa - 1) &&& (-pa))]) ?_
    refine ev_iret 33 d_ty_offsetBehind_33 rfl ?_
    exact ⟨rfl, by rw [ob_of, if_pos e1_0]⟩
  by_cases e1_1 : x = 10
  · refine ev_topi 10 e1_1 ?_
    refine ev_look 1 34 d_ty_offsetBehind_1 (by decide) rfl ?_
    refine ev_iload_2 34 d_ty_offsetBehind_34 ?_
    refine ev_iret 35 d_ty_offsetBehind_35 rfl ?_
    exact ⟨rfl, by rw [ob_of, if_neg e1_0, if_pos e1_1]⟩
  refine ev_look 1 36 d_ty_offsetBehind_1 (by decide) (sw_lk2 (sw_tn (k := 9) e1_0) (sw_tn (k := 10) e1_1)) ?_
  refine ev_iconst_0 36 d_ty_offsetBehind_36 ?_
  refine ev_iret 37 d_ty_offsetBehind_37 rfl ?_
  exact ⟨rfl, by rw [ob_of, if_neg e1_0, if_neg e1_1]⟩
