/-! making objects: links and words -/
theorem oi_w {w : Cond} : Cond.instanceMethod Lib.objectInit ∈ (w :: hc_ws) := hc_inc (i := 244) rfl
theorem oc_w {w : Cond} : Cond.code Lib.objectInit ⟨#[0xb1]⟩ 1 none ∈ (w :: hc_ws) := hc_inc (i := 245) rfl
theorem nw_hc {w : Cond} : Cond.initialized R_hc ∈ (w :: hc_ws) := hc_inc (i := 0) rfl
theorem nw_it {w : Cond} : Cond.initialized R_it ∈ (w :: hc_ws) := hc_inc (i := 1) rfl
theorem nw_tr {w : Cond} : Cond.initialized R_tr ∈ (w :: hc_ws) := hc_inc (i := 2) rfl
theorem nw_ty {w : Cond} : Cond.initialized R_ty ∈ (w :: hc_ws) := hc_inc (i := 8) rfl
theorem nw_in {w : Cond} : Cond.initialized R_in ∈ (w :: hc_ws) := hc_inc (i := 11) rfl
theorem nw_ha {w : Cond} : Cond.initialized R_ha ∈ (w :: hc_ws) := hc_inc (i := 12) rfl
theorem nw_fu {w : Cond} : Cond.initialized R_fu ∈ (w :: hc_ws) := hc_inc (i := 16) rfl
theorem nw_re {w : Cond} : Cond.initialized R_re ∈ (w :: hc_ws) := hc_inc (i := 18) rfl
theorem nw_wt {w : Cond} : Cond.initialized R_wt ∈ (w :: hc_ws) := hc_inc (i := 19) rfl
theorem iw_hc {w : Cond} : Cond.instantiable R_hc 18 ∈ (w :: hc_ws) := hc_inc (i := 20) rfl
theorem ob_hc {w : Cond} : Cond.methodLink R_hc 1 Lib.objectInit ∈ (w :: hc_ws) := hc_inc (i := 21) rfl
theorem cw_hc_9 {w : Cond} : Cond.classLink R_hc 9 R_ty ∈ (w :: hc_ws) := hc_inc (i := 22) rfl
theorem cw_hc_25 {w : Cond} : Cond.classLink R_hc 25 R_in ∈ (w :: hc_ws) := hc_inc (i := 23) rfl
theorem cw_hc_34 {w : Cond} : Cond.classLink R_hc 34 R_fu ∈ (w :: hc_ws) := hc_inc (i := 24) rfl
theorem cw_hc_65 {w : Cond} : Cond.classLink R_hc 65 R_it ∈ (w :: hc_ws) := hc_inc (i := 25) rfl
theorem iw_it {w : Cond} : Cond.instantiable R_it 4 ∈ (w :: hc_ws) := hc_inc (i := 26) rfl
theorem ob_it {w : Cond} : Cond.methodLink R_it 3 Lib.objectInit ∈ (w :: hc_ws) := hc_inc (i := 27) rfl
theorem ac_int {w : Cond} : Cond.arrayClass .int ∈ (w :: hc_ws) := hc_inc (i := 40) rfl
theorem ac_long {w : Cond} : Cond.arrayClass .long ∈ (w :: hc_ws) := hc_inc (i := 41) rfl
theorem cw_hc_72 {w : Cond} : Cond.classLink R_hc 72 R_tr ∈ (w :: hc_ws) := hc_inc (i := 42) rfl
theorem iw_tr {w : Cond} : Cond.instantiable R_tr 2 ∈ (w :: hc_ws) := hc_inc (i := 43) rfl
theorem ob_tr {w : Cond} : Cond.methodLink R_tr 1 Lib.objectInit ∈ (w :: hc_ws) := hc_inc (i := 44) rfl
theorem iw_ty {w : Cond} : Cond.instantiable R_ty 9 ∈ (w :: hc_ws) := hc_inc (i := 75) rfl
theorem ob_ty {w : Cond} : Cond.methodLink R_ty 3 Lib.objectInit ∈ (w :: hc_ws) := hc_inc (i := 77) rfl
theorem cw_ty_10 {w : Cond} : Cond.classLink R_ty 10 R_ty ∈ (w :: hc_ws) := hc_inc (i := 78) rfl
theorem mw_ty_32 {c : Cond} : ∀ w ∈ ev_mw R_ty 32 Lib.Math.max.name Lib.Math.max.code, w ∈ (c :: hc_ws) := by
  intro w hw
  simp only [ev_mw, List.mem_cons, List.not_mem_nil, or_false] at hw
  rcases hw with rfl | rfl | rfl | rfl
  · exact hc_inc (i := 474) rfl
  · exact hc_inc (i := 476) rfl
  · exact hc_inc (i := 9) rfl
  · exact hc_inc (i := 477) rfl
theorem mw_hc_316 {c : Cond} : ∀ w ∈ ev_mw R_hc 316 Lib.Math.min.name Lib.Math.min.code, w ∈ (c :: hc_ws) := by
  intro w hw
  simp only [ev_mw, List.mem_cons, List.not_mem_nil, or_false] at hw
  rcases hw with rfl | rfl | rfl | rfl
  · exact hc_inc (i := 475) rfl
  · exact hc_inc (i := 478) rfl
  · exact hc_inc (i := 9) rfl
  · exact hc_inc (i := 479) rfl
theorem iw_in {w : Cond} : Cond.instantiable R_in 4 ∈ (w :: hc_ws) := hc_inc (i := 114) rfl
theorem ob_in {w : Cond} : Cond.methodLink R_in 3 Lib.objectInit ∈ (w :: hc_ws) := hc_inc (i := 116) rfl
theorem cw_in_15 {w : Cond} : Cond.classLink R_in 15 R_ha ∈ (w :: hc_ws) := hc_inc (i := 117) rfl
theorem iw_ha {w : Cond} : Cond.instantiable R_ha 5 ∈ (w :: hc_ws) := hc_inc (i := 118) rfl
theorem ob_ha {w : Cond} : Cond.methodLink R_ha 3 Lib.objectInit ∈ (w :: hc_ws) := hc_inc (i := 119) rfl
theorem iw_fu {w : Cond} : Cond.instantiable R_fu 3 ∈ (w :: hc_ws) := hc_inc (i := 151) rfl
theorem ob_fu {w : Cond} : Cond.methodLink R_fu 1 Lib.objectInit ∈ (w :: hc_ws) := hc_inc (i := 153) rfl
theorem cw_hc_331 {w : Cond} : Cond.classLink R_hc 331 R_re ∈ (w :: hc_ws) := hc_inc (i := 183) rfl
theorem iw_re {w : Cond} : Cond.instantiable R_re 4 ∈ (w :: hc_ws) := hc_inc (i := 184) rfl
theorem ob_re {w : Cond} : Cond.methodLink R_re 3 Lib.objectInit ∈ (w :: hc_ws) := hc_inc (i := 186) rfl
theorem kl_re_112 {w : Cond} : Cond.constantLong R_re 112 65535 ∈ (w :: hc_ws) := hc_inc (i := 195) rfl
theorem kl_re_102 {w : Cond} : Cond.constantLong R_re 102 1114111 ∈ (w :: hc_ws) := hc_inc (i := 210) rfl
theorem kl_re_104 {w : Cond} : Cond.constantLong R_re 104 55295 ∈ (w :: hc_ws) := hc_inc (i := 211) rfl
theorem kl_re_106 {w : Cond} : Cond.constantLong R_re 106 57344 ∈ (w :: hc_ws) := hc_inc (i := 212) rfl
theorem cw_hc_340 {w : Cond} : Cond.classLink R_hc 340 R_wt ∈ (w :: hc_ws) := hc_inc (i := 213) rfl
theorem iw_wt {w : Cond} : Cond.instantiable R_wt 5 ∈ (w :: hc_ws) := hc_inc (i := 214) rfl
theorem ob_wt {w : Cond} : Cond.methodLink R_wt 3 Lib.objectInit ∈ (w :: hc_ws) := hc_inc (i := 216) rfl
