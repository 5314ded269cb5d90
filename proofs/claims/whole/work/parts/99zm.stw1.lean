/-! the law's words stand in the tables -/
theorem ch_0 {l : List Cond} {P : Cond → Prop} (k : Nat) (h1 : ∀ w ∈ l.take k, P w) (h2 : ∀ w ∈ l.drop k, P w) : ∀ w ∈ l, P w := fun w hw => by
  rw [← List.take_append_drop k l] at hw
  exact (List.mem_append.mp hw).elim (h1 w) (h2 w)
theorem tb_hc_l0 : ∀ w ∈ hc_l0, w ∈ lw_tbl := by decide +kernel
theorem tb_hc_l1 : ∀ w ∈ hc_l1, w ∈ lw_tbl := by decide +kernel
theorem tb_hc_l2 : ∀ w ∈ hc_l2, w ∈ lw_tbl := by decide +kernel
theorem tb_hc_l3 : ∀ w ∈ hc_l3, w ∈ lw_tbl := by decide +kernel
theorem tb_hc_l4 : ∀ w ∈ hc_l4, w ∈ lw_tbl := by decide +kernel
theorem tb_hc_l5 : ∀ w ∈ hc_l5, w ∈ lw_tbl := by decide +kernel
theorem tb_hc_l6 : ∀ w ∈ hc_l6, w ∈ lw_tbl := by decide +kernel
theorem tb_hc_l7 : ∀ w ∈ hc_l7, w ∈ lw_tbl := by decide +kernel
theorem tb_hc_l8 : ∀ w ∈ hc_l8, w ∈ lw_tbl := by decide +kernel
theorem tb_hc_l9 : ∀ w ∈ hc_l9, w ∈ lw_tbl := by decide +kernel
theorem tb_hc_l10 : ∀ w ∈ hc_l10, w ∈ lw_tbl := by decide +kernel
theorem tb_hc_l11 : ∀ w ∈ hc_l11, w ∈ lw_tbl := by decide +kernel
theorem tb_hc_wl : ∀ w ∈ hc_wl, w ∈ lw_tbl := fun w => fun h => (List.mem_append.mp h).elim (tb_hc_l0 w) (fun h => (List.mem_append.mp h).elim (tb_hc_l1 w) (fun h => (List.mem_append.mp h).elim (tb_hc_l2 w) (fun h => (List.mem_append.mp h).elim (tb_hc_l3 w) (fun h => (List.mem_append.mp h).elim (tb_hc_l4 w) (fun h => (List.mem_append.mp h).elim (tb_hc_l5 w) (fun h => (List.mem_append.mp h).elim (tb_hc_l6 w) (fun h => (List.mem_append.mp h).elim (tb_hc_l7 w) (fun h => (List.mem_append.mp h).elim (tb_hc_l8 w) (fun h => (List.mem_append.mp h).elim (tb_hc_l9 w) (fun h => (List.mem_append.mp h).elim (tb_hc_l10 w) (tb_hc_l11 w)))))))))))
