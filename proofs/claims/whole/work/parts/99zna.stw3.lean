theorem tm_0 : ∀ w ∈ mo_wl.take 15, w ∈ lw_tbl := by decide +kernel
theorem tm_1 : ∀ w ∈ (mo_wl.drop 15).take 15, w ∈ lw_tbl := by decide +kernel
theorem tm_2 : ∀ w ∈ (mo_wl.drop 30).take 15, w ∈ lw_tbl := by decide +kernel
theorem tm_3 : ∀ w ∈ (mo_wl.drop 45).take 15, w ∈ lw_tbl := by decide +kernel
theorem tm_4 : ∀ w ∈ (mo_wl.drop 60).take 15, w ∈ lw_tbl := by decide +kernel
theorem tm_5 : ∀ w ∈ (mo_wl.drop 75).take 15, w ∈ lw_tbl := by decide +kernel
theorem tm_6 : ∀ w ∈ (mo_wl.drop 90).take 15, w ∈ lw_tbl := by decide +kernel
theorem tm_7 : ∀ w ∈ (mo_wl.drop 105).take 15, w ∈ lw_tbl := by decide +kernel
theorem tm_8 : ∀ w ∈ (mo_wl.drop 120).take 15, w ∈ lw_tbl := by decide +kernel
theorem tm_9 : ∀ w ∈ (mo_wl.drop 135).take 15, w ∈ lw_tbl := by decide +kernel
theorem tm_10 : ∀ w ∈ (mo_wl.drop 150).take 15, w ∈ lw_tbl := by decide +kernel
theorem tm_11 : ∀ w ∈ (mo_wl.drop 165), w ∈ lw_tbl := by decide +kernel
theorem tn_10 : ∀ w ∈ (mo_wl.drop 150), w ∈ lw_tbl := ch_0 15 tm_10 (fun w h => tm_11 w (by rw [List.drop_drop] at h; exact h))
theorem tn_9 : ∀ w ∈ (mo_wl.drop 135), w ∈ lw_tbl := ch_0 15 tm_9 (fun w h => tn_10 w (by rw [List.drop_drop] at h; exact h))
theorem tn_8 : ∀ w ∈ (mo_wl.drop 120), w ∈ lw_tbl := ch_0 15 tm_8 (fun w h => tn_9 w (by rw [List.drop_drop] at h; exact h))
theorem tn_7 : ∀ w ∈ (mo_wl.drop 105), w ∈ lw_tbl := ch_0 15 tm_7 (fun w h => tn_8 w (by rw [List.drop_drop] at h; exact h))
theorem tn_6 : ∀ w ∈ (mo_wl.drop 90), w ∈ lw_tbl := ch_0 15 tm_6 (fun w h => tn_7 w (by rw [List.drop_drop] at h; exact h))
theorem tn_5 : ∀ w ∈ (mo_wl.drop 75), w ∈ lw_tbl := ch_0 15 tm_5 (fun w h => tn_6 w (by rw [List.drop_drop] at h; exact h))
theorem tn_4 : ∀ w ∈ (mo_wl.drop 60), w ∈ lw_tbl := ch_0 15 tm_4 (fun w h => tn_5 w (by rw [List.drop_drop] at h; exact h))
theorem tn_3 : ∀ w ∈ (mo_wl.drop 45), w ∈ lw_tbl := ch_0 15 tm_3 (fun w h => tn_4 w (by rw [List.drop_drop] at h; exact h))
theorem tn_2 : ∀ w ∈ (mo_wl.drop 30), w ∈ lw_tbl := ch_0 15 tm_2 (fun w h => tn_3 w (by rw [List.drop_drop] at h; exact h))
theorem tn_1 : ∀ w ∈ (mo_wl.drop 15), w ∈ lw_tbl := ch_0 15 tm_1 (fun w h => tn_2 w (by rw [List.drop_drop] at h; exact h))
theorem tn_0 : ∀ w ∈ mo_wl, w ∈ lw_tbl := ch_0 15 tm_0 tn_1
theorem tb_mo : ∀ w ∈ mo_ws, w ∈ lw_tbl := fun w h => (List.mem_append.mp h).elim (tn_0 w) (tu_mo w)
