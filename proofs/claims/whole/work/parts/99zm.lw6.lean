/-! the law's start -/
theorem lw_t1 : ∀ w ∈ lw_wl, w ∈ lw_tbl := by decide +kernel
theorem lw_t2 : ∀ w ∈ hc_wl, w ∈ lw_tbl := by decide +kernel
theorem lw_t3 : ∀ w ∈ hc_u, w ∈ lw_tbl := by decide +kernel
theorem lw_t4 : ∀ w ∈ hc_x, w ∈ lw_tbl := by decide +kernel
theorem lw_t5 : ∀ w ∈ mi_ws, w ∈ lw_tbl := by decide +kernel
theorem lw_t6 : ∀ w ∈ lw_nw, w ∈ lw_tbl := by decide +kernel
theorem lw_tb : ∀ w ∈ lw_ws, w ∈ lw_tbl := fun w h => (List.mem_append.mp h).elim (lw_t1 w) (fun h => (List.mem_append.mp h).elim (fun h => (List.mem_append.mp h).elim (lw_t2 w) (fun h => (List.mem_append.mp h).elim (lw_t3 w) (lw_t4 w))) (lw_t5 w))
