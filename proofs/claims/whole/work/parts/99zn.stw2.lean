theorem ch_0 {l : List Cond} {P : Cond → Prop} (k : Nat) (h1 : ∀ w ∈ l.take k, P w) (h2 : ∀ w ∈ l.drop k, P w) : ∀ w ∈ l, P w := fun w hw => by
  rw [← List.take_append_drop k l] at hw
  exact (List.mem_append.mp hw).elim (h1 w) (h2 w)
theorem tu_hc : ∀ w ∈ u_ws R_hc T_hc 18, w ∈ lw_tbl := by decide +kernel
theorem tu_ty : ∀ w ∈ u_ws R_ty T_ty 9, w ∈ lw_tbl := by decide +kernel
theorem tu_fu : ∀ w ∈ u_ws R_fu T_fu 3, w ∈ lw_tbl := by decide +kernel
theorem tu_tr : ∀ w ∈ u_ws R_tr T_tr 2, w ∈ lw_tbl := by decide +kernel
theorem tu_ha : ∀ w ∈ u_ws R_ha T_ha 5, w ∈ lw_tbl := by decide +kernel
theorem tu_in : ∀ w ∈ u_ws R_in T_in 4, w ∈ lw_tbl := by decide +kernel
theorem tu_it : ∀ w ∈ u_ws R_it T_it 4, w ∈ lw_tbl := by decide +kernel
theorem tu_re : ∀ w ∈ u_ws R_re T_re 4, w ∈ lw_tbl := by decide +kernel
theorem tu_wt : ∀ w ∈ u_ws R_wt T_wt 5, w ∈ lw_tbl := by decide +kernel
theorem tb_hc_u : ∀ w ∈ hc_u, w ∈ lw_tbl := fun w => fun h => (List.mem_append.mp h).elim (tu_hc w) (fun h => (List.mem_append.mp h).elim (tu_ty w) (fun h => (List.mem_append.mp h).elim (tu_fu w) (fun h => (List.mem_append.mp h).elim (tu_tr w) (fun h => (List.mem_append.mp h).elim (tu_ha w) (fun h => (List.mem_append.mp h).elim (tu_in w) (fun h => (List.mem_append.mp h).elim (tu_it w) (fun h => (List.mem_append.mp h).elim (tu_re w) (tu_wt w))))))))
theorem tu_mo_0 : ∀ w ∈ (u_ws R_mo T_mo 60).take 10, w ∈ lw_tbl := by decide +kernel
theorem tu_mo_1 : ∀ w ∈ ((u_ws R_mo T_mo 60).drop 10).take 10, w ∈ lw_tbl := by decide +kernel
theorem tu_mo_2 : ∀ w ∈ ((u_ws R_mo T_mo 60).drop 20).take 10, w ∈ lw_tbl := by decide +kernel
theorem tu_mo_3 : ∀ w ∈ ((u_ws R_mo T_mo 60).drop 30).take 10, w ∈ lw_tbl := by decide +kernel
theorem tu_mo_4 : ∀ w ∈ ((u_ws R_mo T_mo 60).drop 40).take 10, w ∈ lw_tbl := by decide +kernel
theorem tu_mo_5 : ∀ w ∈ ((u_ws R_mo T_mo 60).drop 50), w ∈ lw_tbl := by decide +kernel
theorem tu_mo : ∀ w ∈ u_ws R_mo T_mo 60, w ∈ lw_tbl := ch_0 10 tu_mo_0 (ch_0 10 tu_mo_1 (fun w h => (ch_0 10 tu_mo_2 (fun w h => (ch_0 10 tu_mo_3 (fun w h => (ch_0 10 tu_mo_4 (fun w h => tu_mo_5 w (by rw [List.drop_drop] at h; exact h))) w (by rw [List.drop_drop] at h; exact h))) w (by rw [List.drop_drop] at h; exact h))) w (by rw [List.drop_drop] at h; exact h)))
theorem tx_0 : ∀ w ∈ (ox_at R_hc 90 "java/lang/IllegalArgumentException" ["java/lang/RuntimeException", "java/lang/Exception"]).filter goodWord, w ∈ lw_tbl := by decide +kernel
theorem tx_1 : ∀ w ∈ (ox_at R_hc 97 "java/lang/IllegalStateException" ["java/lang/RuntimeException", "java/lang/Exception"]).filter goodWord, w ∈ lw_tbl := by decide +kernel
theorem tx_2 : ∀ w ∈ (ox_at R_hc 130 "java/lang/IndexOutOfBoundsException" ["java/lang/RuntimeException", "java/lang/Exception"]).filter goodWord, w ∈ lw_tbl := by decide +kernel
theorem tx_3 : ∀ w ∈ (ox_at R_hc 160 "java/lang/UnsupportedOperationException" ["java/lang/RuntimeException", "java/lang/Exception"]).filter goodWord, w ∈ lw_tbl := by decide +kernel
theorem tx_4 : ∀ w ∈ (ox_at R_hc 236 "java/util/NoSuchElementException" ["java/lang/RuntimeException", "java/lang/Exception"]).filter goodWord, w ∈ lw_tbl := by decide +kernel
theorem tb_hc_x : ∀ w ∈ hc_x, w ∈ lw_tbl := fun w => fun h => (List.mem_append.mp h).elim (tx_0 w) (fun h => (List.mem_append.mp h).elim (tx_1 w) (fun h => (List.mem_append.mp h).elim (tx_2 w) (fun h => (List.mem_append.mp h).elim (tx_3 w) (tx_4 w))))
theorem tb_mo : ∀ w ∈ mo_ws, w ∈ lw_tbl := fun w h => (List.mem_append.mp h).elim (tb_mo_wl w) (tu_mo w)
theorem tb_mix : ∀ w ∈ mi_x, w ∈ lw_tbl := by decide +kernel
theorem tb_mi : ∀ w ∈ mi_ws, w ∈ lw_tbl := fun w h => (List.mem_append.mp h).elim (tb_mix w) (tb_mo w)
theorem lw_tb : ∀ w ∈ lw_ws, w ∈ lw_tbl := fun w h => (List.mem_append.mp h).elim (tb_lw_wl w) (fun h => (List.mem_append.mp h).elim (fun h => (List.mem_append.mp h).elim (tb_hc_wl w) (fun h => (List.mem_append.mp h).elim (tb_hc_u w) (tb_hc_x w))) (tb_mi w))
theorem tb_nw0 : ∀ w ∈ hc_nw, w ∈ lw_tbl := by decide +kernel
def lw_nx : List Cond := (ox_at R_hc 90 "java/lang/IllegalArgumentException" x_nm).filter (fun w => !goodWord w) ++ ((ox_at R_hc 97 "java/lang/IllegalStateException" x_nm).filter (fun w => !goodWord w) ++ ((ox_at R_hc 130 "java/lang/IndexOutOfBoundsException" x_nm).filter (fun w => !goodWord w) ++ ((ox_at R_hc 160 "java/lang/UnsupportedOperationException" x_nm).filter (fun w => !goodWord w) ++ ((ox_at R_hc 236 "java/util/NoSuchElementException" x_nm).filter (fun w => !goodWord w)))))
theorem tb_nx : ∀ w ∈ lw_nx, w ∈ lw_tbl := by decide +kernel
theorem tb_nx2 : ∀ p ∈ thr_l, ∀ w ∈ (ox_at R_hc p.2.2.1 p.2.2.2 x_nm).filter (fun w => !goodWord w), w ∈ lw_nx := by decide +kernel
theorem tb_nw : ∀ w ∈ lw_nw, w ∈ lw_tbl := fun w h => (List.mem_append.mp h).elim (tb_nw0 w) (fun h => by
  obtain ⟨p, hp, hw⟩ := List.mem_flatMap.mp h
  exact tb_nx w (tb_nx2 p hp w hw))
theorem tb_str : ∀ p ∈ thr_l, Cond.stringRef R_hc p.1 p.2.1 ∈ lw_tbl := by decide +kernel
