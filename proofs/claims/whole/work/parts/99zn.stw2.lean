theorem tb_lw_w0 : ∀ w ∈ lw_w0, w ∈ lw_tbl := by decide +kernel
theorem tb_lw_v_part : ∀ w ∈ lw_v_part, w ∈ lw_tbl := by decide +kernel
theorem tb_lw_v_type : ∀ w ∈ lw_v_type, w ∈ lw_tbl := by decide +kernel
theorem tb_lw_v_layout : ∀ w ∈ lw_v_layout, w ∈ lw_tbl := by decide +kernel
theorem tb_lw_v_fits : ∀ w ∈ lw_v_fits, w ∈ lw_tbl := by decide +kernel
theorem tb_lw_v_instance : ∀ w ∈ lw_v_instance, w ∈ lw_tbl := by decide +kernel
theorem tb_lw_v_function : ∀ w ∈ lw_v_function, w ∈ lw_tbl := by decide +kernel
theorem tb_lw_v_write : ∀ w ∈ lw_v_write, w ∈ lw_tbl := by decide +kernel
theorem tb_lw_v_read : ∀ w ∈ lw_v_read, w ∈ lw_tbl := by decide +kernel
theorem tb_lw_v_enter : ∀ w ∈ lw_v_enter, w ∈ lw_tbl := by decide +kernel
theorem tb_lw_v_leave : ∀ w ∈ lw_v_leave, w ∈ lw_tbl := by decide +kernel
theorem tb_lw_v_make : ∀ w ∈ lw_v_make, w ∈ lw_tbl := by decide +kernel
theorem tb_lw_v_drop : ∀ w ∈ lw_v_drop, w ∈ lw_tbl := by decide +kernel
theorem tb_lw_v_handle : ∀ w ∈ lw_v_handle, w ∈ lw_tbl := by decide +kernel
theorem tb_lw_v_call : ∀ w ∈ lw_v_call, w ∈ lw_tbl := by decide +kernel
theorem tb_lw_v_back : ∀ w ∈ lw_v_back, w ∈ lw_tbl := by decide +kernel
theorem tb_lw_v_trap : ∀ w ∈ lw_v_trap, w ∈ lw_tbl := by decide +kernel
theorem tb_lw_v_state : ∀ w ∈ lw_v_state, w ∈ lw_tbl := by decide +kernel
theorem tb_lw_v_close : ∀ w ∈ lw_v_close, w ∈ lw_tbl := by decide +kernel
theorem tb_lw_v_resources : ∀ w ∈ lw_v_resources, w ∈ lw_tbl := by decide +kernel
theorem tb_lw_v_latest : ∀ w ∈ lw_v_latest, w ∈ lw_tbl := by decide +kernel
theorem tb_lw_v_passed : ∀ w ∈ lw_v_passed, w ∈ lw_tbl := by decide +kernel
theorem tb_lw_v_depth : ∀ w ∈ lw_v_depth, w ∈ lw_tbl := by decide +kernel
theorem tb_lw_v_level : ∀ w ∈ lw_v_level, w ∈ lw_tbl := by decide +kernel
theorem tb_lw_v_thrown : ∀ w ∈ lw_v_thrown, w ∈ lw_tbl := by decide +kernel
theorem tb_lw_wl : ∀ w ∈ lw_wl, w ∈ lw_tbl := fun w => fun h => (List.mem_append.mp h).elim (tb_lw_w0 w) (fun h => (List.mem_append.mp h).elim (tb_lw_v_part w) (fun h => (List.mem_append.mp h).elim (tb_lw_v_type w) (fun h => (List.mem_append.mp h).elim (tb_lw_v_layout w) (fun h => (List.mem_append.mp h).elim (tb_lw_v_fits w) (fun h => (List.mem_append.mp h).elim (tb_lw_v_instance w) (fun h => (List.mem_append.mp h).elim (tb_lw_v_function w) (fun h => (List.mem_append.mp h).elim (tb_lw_v_write w) (fun h => (List.mem_append.mp h).elim (tb_lw_v_read w) (fun h => (List.mem_append.mp h).elim (tb_lw_v_enter w) (fun h => (List.mem_append.mp h).elim (tb_lw_v_leave w) (fun h => (List.mem_append.mp h).elim (tb_lw_v_make w) (fun h => (List.mem_append.mp h).elim (tb_lw_v_drop w) (fun h => (List.mem_append.mp h).elim (tb_lw_v_handle w) (fun h => (List.mem_append.mp h).elim (tb_lw_v_call w) (fun h => (List.mem_append.mp h).elim (tb_lw_v_back w) (fun h => (List.mem_append.mp h).elim (tb_lw_v_trap w) (fun h => (List.mem_append.mp h).elim (tb_lw_v_state w) (fun h => (List.mem_append.mp h).elim (tb_lw_v_close w) (fun h => (List.mem_append.mp h).elim (tb_lw_v_resources w) (fun h => (List.mem_append.mp h).elim (tb_lw_v_latest w) (fun h => (List.mem_append.mp h).elim (tb_lw_v_passed w) (fun h => (List.mem_append.mp h).elim (tb_lw_v_depth w) (fun h => (List.mem_append.mp h).elim (tb_lw_v_level w) (tb_lw_v_thrown w))))))))))))))))))))))))
theorem tu_hc : ∀ w ∈ u_ws R_hc T_hc 18, w ∈ lw_tbl := by decide +kernel
theorem tu_ty : ∀ w ∈ u_ws R_ty T_ty 9, w ∈ lw_tbl := by decide +kernel
theorem tu_fu : ∀ w ∈ u_ws R_fu T_fu 3, w ∈ lw_tbl := by decide +kernel
theorem tu_tr : ∀ w ∈ u_ws R_tr T_tr 2, w ∈ lw_tbl := by decide +kernel
theorem tu_ha : ∀ w ∈ u_ws R_ha T_ha 5, w ∈ lw_tbl := by decide +kernel
theorem tu_in : ∀ w ∈ u_ws R_in T_in 4, w ∈ lw_tbl := by decide +kernel
theorem tu_it : ∀ w ∈ u_ws R_it T_it 4, w ∈ lw_tbl := by decide +kernel
theorem tu_re : ∀ w ∈ u_ws R_re T_re 4, w ∈ lw_tbl := by decide +kernel
theorem tu_wt : ∀ w ∈ u_ws R_wt T_wt 5, w ∈ lw_tbl := by decide +kernel
theorem tb_hc_u : ∀ w ∈ hc_u, w ∈ lw_tbl := fun w => fun h => (List.mem_append.mp h).elim (tu_hc w) (fun h => (List.mem_append.mp h).elim (tu_ty w) (fun h => (List.mem_append.mp h).elim (tu_fu w) (fun h => (List.mem_append.mp h).elim (tu_tr w) (fun h => (List.mem_append.mp h).elim (tu_ha w) (fun h => (List.mem_append.mp h).elim (tu_in w) (fun h => (List.mem_append.mp h).elim (tu_it w) (fun h => (List.mem_append.mp h).elim (tu_re w) (tu_wt w))))))))
theorem tu_mo_0 : ∀ w ∈ (u_ws R_mo T_mo 60).take 20, w ∈ lw_tbl := by decide +kernel
theorem tu_mo_1 : ∀ w ∈ ((u_ws R_mo T_mo 60).drop 20).take 20, w ∈ lw_tbl := by decide +kernel
theorem tu_mo_2 : ∀ w ∈ ((u_ws R_mo T_mo 60).drop 40), w ∈ lw_tbl := by decide +kernel
theorem tu_mo : ∀ w ∈ u_ws R_mo T_mo 60, w ∈ lw_tbl := ch_0 20 tu_mo_0 (ch_0 20 tu_mo_1 (fun w h => tu_mo_2 w (by rw [List.drop_drop] at h; exact h)))
theorem tx_0 : ∀ w ∈ (ox_at R_hc 90 "java/lang/IllegalArgumentException" ["java/lang/RuntimeException", "java/lang/Exception"]).filter goodWord, w ∈ lw_tbl := by decide +kernel
theorem tx_1 : ∀ w ∈ (ox_at R_hc 97 "java/lang/IllegalStateException" ["java/lang/RuntimeException", "java/lang/Exception"]).filter goodWord, w ∈ lw_tbl := by decide +kernel
theorem tx_2 : ∀ w ∈ (ox_at R_hc 130 "java/lang/IndexOutOfBoundsException" ["java/lang/RuntimeException", "java/lang/Exception"]).filter goodWord, w ∈ lw_tbl := by decide +kernel
theorem tx_3 : ∀ w ∈ (ox_at R_hc 160 "java/lang/UnsupportedOperationException" ["java/lang/RuntimeException", "java/lang/Exception"]).filter goodWord, w ∈ lw_tbl := by decide +kernel
theorem tx_4 : ∀ w ∈ (ox_at R_hc 236 "java/util/NoSuchElementException" ["java/lang/RuntimeException", "java/lang/Exception"]).filter goodWord, w ∈ lw_tbl := by decide +kernel
theorem tb_hc_x : ∀ w ∈ hc_x, w ∈ lw_tbl := fun w => fun h => (List.mem_append.mp h).elim (tx_0 w) (fun h => (List.mem_append.mp h).elim (tx_1 w) (fun h => (List.mem_append.mp h).elim (tx_2 w) (fun h => (List.mem_append.mp h).elim (tx_3 w) (tx_4 w))))
