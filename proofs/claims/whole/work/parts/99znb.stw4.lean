theorem tb_mix : ∀ w ∈ mi_x, w ∈ lw_tbl := by decide +kernel
theorem tb_mi : ∀ w ∈ mi_ws, w ∈ lw_tbl := fun w h => (List.mem_append.mp h).elim (tb_mix w) (tb_mo w)
theorem lw_tb : ∀ w ∈ lw_ws, w ∈ lw_tbl := fun w h => (List.mem_append.mp h).elim (tb_lw_wl w) (fun h => (List.mem_append.mp h).elim (fun h => (List.mem_append.mp h).elim (tb_hc_wl w) (fun h => (List.mem_append.mp h).elim (tb_hc_u w) (tb_hc_x w))) (tb_mi w))
theorem tb_nw0 : ∀ w ∈ hc_nw, w ∈ lw_tbl := by decide +kernel
def lw_nx : List Cond := (ox_at R_hc 90 "java/lang/IllegalArgumentException" x_nm).filter (fun w => !goodWord w) ++ ((ox_at R_hc 97 "java/lang/IllegalStateException" x_nm).filter (fun w => !goodWord w) ++ ((ox_at R_hc 130 "java/lang/IndexOutOfBoundsException" x_nm).filter (fun w => !goodWord w) ++ ((ox_at R_hc 160 "java/lang/UnsupportedOperationException" x_nm).filter (fun w => !goodWord w) ++ ((ox_at R_hc 236 "java/util/NoSuchElementException" x_nm).filter (fun w => !goodWord w)))))
theorem tb_nx : ∀ w ∈ lw_nx, w ∈ lw_tbl := by decide +kernel
theorem tb_nx2 : ∀ p ∈ thr_l, ∀ w ∈ (ox_at R_hc p.2.2.1 p.2.2.2 x_nm).filter (fun w => !goodWord w), w ∈ lw_nx := by decide +kernel
theorem tb_nw : ∀ w ∈ lw_nw, w ∈ lw_tbl := fun w h => (List.mem_append.mp h).elim (tb_nw0 w) (fun h => by
  obtain ⟨p, hp, hw⟩ := List.mem_flatMap.mp h
  exact tb_nx w (tb_nx2 p hp w hw))
theorem tb_str : ∀ p ∈ thr_l, Cond.stringRef R_hc p.1 p.2.1 ∈ lw_tbl := by decide +kernel
