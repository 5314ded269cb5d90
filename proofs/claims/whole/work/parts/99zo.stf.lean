/-! what the Statement gives of the start -/
abbrev lw_fl : List Cond := flatC (Jvm.Cond.and given_1 narrow_1)
theorem fl_ho : ∀ c ∈ [Cond.exactly (.static "HostedCalls$Holding" "FREE" "LHostedCalls$Holding;") "HostedCalls$Holding", Cond.exactly (.static "HostedCalls$Holding" "OWNED" "LHostedCalls$Holding;") "HostedCalls$Holding", Cond.exactly (.static "HostedCalls$Holding" "LENT" "LHostedCalls$Holding;") "HostedCalls$Holding", Cond.exactly (.static "HostedCalls$Holding" "TAKEN" "LHostedCalls$Holding;") "HostedCalls$Holding", Cond.exactly (.static "HostedCalls$Holding" "ARRIVING" "LHostedCalls$Holding;") "HostedCalls$Holding"], c ∈ lw_fl := by decide +kernel
theorem fl_ne : ∀ c ∈ [Cond.not (.eq (.static "HostedCalls$Holding" "FREE" "LHostedCalls$Holding;") (.static "HostedCalls$Holding" "OWNED" "LHostedCalls$Holding;")), Cond.not (.eq (.static "HostedCalls$Holding" "FREE" "LHostedCalls$Holding;") (.static "HostedCalls$Holding" "LENT" "LHostedCalls$Holding;")), Cond.not (.eq (.static "HostedCalls$Holding" "OWNED" "LHostedCalls$Holding;") (.static "HostedCalls$Holding" "LENT" "LHostedCalls$Holding;")), Cond.not (.eq (.static "HostedCalls$Holding" "FREE" "LHostedCalls$Holding;") (.static "HostedCalls$Holding" "ARRIVING" "LHostedCalls$Holding;")), Cond.not (.eq (.static "HostedCalls$Holding" "OWNED" "LHostedCalls$Holding;") (.static "HostedCalls$Holding" "ARRIVING" "LHostedCalls$Holding;")), Cond.not (.eq (.static "HostedCalls$Holding" "LENT" "LHostedCalls$Holding;") (.static "HostedCalls$Holding" "ARRIVING" "LHostedCalls$Holding;")), Cond.not (.eq (.static "HostedCalls$Holding" "FREE" "LHostedCalls$Holding;") (.static "HostedCalls$Holding" "TAKEN" "LHostedCalls$Holding;")), Cond.not (.eq (.static "HostedCalls$Holding" "OWNED" "LHostedCalls$Holding;") (.static "HostedCalls$Holding" "TAKEN" "LHostedCalls$Holding;")), Cond.not (.eq (.static "HostedCalls$Holding" "LENT" "LHostedCalls$Holding;") (.static "HostedCalls$Holding" "TAKEN" "LHostedCalls$Holding;")), Cond.not (.eq (.static "HostedCalls$Holding" "ARRIVING" "LHostedCalls$Holding;") (.static "HostedCalls$Holding" "TAKEN" "LHostedCalls$Holding;"))], c ∈ lw_fl := by decide +kernel
theorem fl_ALIGNMENTS : ∀ c ∈ [Cond.arrayOf (.static "HostedCalls" "ALIGNMENTS" "[I") .int, Cond.eq (.length (.static "HostedCalls" "ALIGNMENTS" "[I")) (.int 13), Cond.eq (.elem (.static "HostedCalls" "ALIGNMENTS" "[I") (.int 0)) (.int 1), Cond.eq (.elem (.static "HostedCalls" "ALIGNMENTS" "[I") (.int 1)) (.int 1), Cond.eq (.elem (.static "HostedCalls" "ALIGNMENTS" "[I") (.int 2)) (.int 2), Cond.eq (.elem (.static "HostedCalls" "ALIGNMENTS" "[I") (.int 3)) (.int 4), Cond.eq (.elem (.static "HostedCalls" "ALIGNMENTS" "[I") (.int 4)) (.int 8), Cond.eq (.elem (.static "HostedCalls" "ALIGNMENTS" "[I") (.int 5)) (.int 4), Cond.eq (.elem (.static "HostedCalls" "ALIGNMENTS" "[I") (.int 6)) (.int 2), Cond.eq (.elem (.static "HostedCalls" "ALIGNMENTS" "[I") (.int 7)) (.int 1), Cond.eq (.elem (.static "HostedCalls" "ALIGNMENTS" "[I") (.int 8)) (.int 2), Cond.eq (.elem (.static "HostedCalls" "ALIGNMENTS" "[I") (.int 9)) (.int 0), Cond.eq (.elem (.static "HostedCalls" "ALIGNMENTS" "[I") (.int 10)) (.int 0), Cond.eq (.elem (.static "HostedCalls" "ALIGNMENTS" "[I") (.int 11)) (.int 1), Cond.eq (.elem (.static "HostedCalls" "ALIGNMENTS" "[I") (.int 12)) (.int 1)], c ∈ lw_fl := by decide +kernel
theorem fl_SIZES : ∀ c ∈ [Cond.arrayOf (.static "HostedCalls" "SIZES" "[I") .int, Cond.eq (.length (.static "HostedCalls" "SIZES" "[I")) (.int 13), Cond.eq (.elem (.static "HostedCalls" "SIZES" "[I") (.int 0)) (.int 1), Cond.eq (.elem (.static "HostedCalls" "SIZES" "[I") (.int 1)) (.int 1), Cond.eq (.elem (.static "HostedCalls" "SIZES" "[I") (.int 2)) (.int 2), Cond.eq (.elem (.static "HostedCalls" "SIZES" "[I") (.int 3)) (.int 4), Cond.eq (.elem (.static "HostedCalls" "SIZES" "[I") (.int 4)) (.int 8), Cond.eq (.elem (.static "HostedCalls" "SIZES" "[I") (.int 5)) (.int 4), Cond.eq (.elem (.static "HostedCalls" "SIZES" "[I") (.int 6)) (.int 4), Cond.eq (.elem (.static "HostedCalls" "SIZES" "[I") (.int 7)) (.int 1), Cond.eq (.elem (.static "HostedCalls" "SIZES" "[I") (.int 8)) (.int 4), Cond.eq (.elem (.static "HostedCalls" "SIZES" "[I") (.int 9)) (.int 0), Cond.eq (.elem (.static "HostedCalls" "SIZES" "[I") (.int 10)) (.int 0), Cond.eq (.elem (.static "HostedCalls" "SIZES" "[I") (.int 11)) (.int 1), Cond.eq (.elem (.static "HostedCalls" "SIZES" "[I") (.int 12)) (.int 1)], c ∈ lw_fl := by decide +kernel
theorem fl_th : ∀ c ∈ [Cond.isRef (.static Bundle.tN "UNASSIGNED_STACK" Bundle.steD), Cond.isRef (.static Bundle.tN "SUPPRESSED_SENTINEL" Bundle.listD)], c ∈ lw_fl := by decide +kernel
theorem fl_nc : ∀ p ∈ lw_nc, Cond.not (.castable p.1 p.2) ∈ lw_fl := by decide +kernel
theorem tb_st : ∀ w ∈ [Cond.laysStatic "HostedCalls$Holding" "FREE" "LHostedCalls$Holding;", Cond.laysStatic "HostedCalls$Holding" "OWNED" "LHostedCalls$Holding;", Cond.laysStatic "HostedCalls$Holding" "LENT" "LHostedCalls$Holding;", Cond.laysStatic "HostedCalls$Holding" "TAKEN" "LHostedCalls$Holding;", Cond.laysStatic "HostedCalls$Holding" "ARRIVING" "LHostedCalls$Holding;", .initialized "HostedCalls$Holding", .laysStatic "HostedCalls" "ALIGNMENTS" "[I", .laysStatic "HostedCalls" "SIZES" "[I", .initialized "HostedCalls", .laysStatic Bundle.tN "UNASSIGNED_STACK" Bundle.steD, .laysStatic Bundle.tN "SUPPRESSED_SENTINEL" Bundle.listD, .initialized Bundle.tN, .arrayOver (.object R_ty), .arrayOver (.object R_in), .arrayOver (.object R_fu), .arrayOver (.object R_ha), .arrayClass .int, .arrayClass .boolean, .arrayClass .long], w ∈ lw_tbl := by decide +kernel
theorem tb_in : ∀ w ∈ [Cond.instantiable R_hc 18, Cond.instantiable R_ty 9, Cond.instantiable R_fu 3, Cond.instantiable R_tr 2, Cond.instantiable R_ha 5, Cond.instantiable R_in 4, Cond.instantiable R_it 4, Cond.instantiable R_re 4, Cond.instantiable R_wt 5, Cond.instantiable R_mo 60], w ∈ lw_tbl := by decide +kernel
theorem ne_refs {args : Array Value} {s : State} {t u : Term} {a a' : Nat} (h : (Cond.not (.eq t u)).before args s = true) (ha : t.eval args s none [] s = some (.ref a)) (hb : u.eval args s none [] s = some (.ref a')) : a ≠ a' := by
  rintro rfl
  simp [Cond.before, Cond.holds, Cond.value, ha, hb] at h
set_option maxHeartbeats 4000000 in
set_option maxRecDepth 100000 in
theorem lw_facts {b L : Nat} {xs : Nat → Int32} {s : State} (hts : ∀ w ∈ lw_tbl, w.before #[Value.ref b] s = true) (hgv : (Jvm.Cond.and given_1 narrow_1).before #[Value.ref b] s = true) (hX : va_X b L xs s s.heap) : ∃ (D : va_G) (ks : Nat → ClassId) (hd sa : Nat → Nat) (ta tz : Nat), va_K D cl_A [(ks 0, .int), (ks 1, .boolean), (ks 2, .long), (ks 3, .object R_ty), (ks 4, .object R_in), (ks 5, .object R_fu), (ks 6, .object R_ha)] s ∧ ho_D hd ∧ lw_Zz hd sa ta tz b L xs (fun q => s.heap.size ≤ q) s s.heap := by
  have fl : ∀ c ∈ lw_fl, c.before #[Value.ref b] s = true := flat_of_before _ hgv
  have hA : ∀ a : Nat, a < s.heap.size → ¬ (fun q => s.heap.size ≤ q) a := fun a h1 h2 => absurd h1 (Nat.not_lt.mpr h2)
  obtain ⟨a0, -, -, -, ev0, -⟩ := Cond.exactly_spec (fl (.exactly (.static "HostedCalls$Holding" "FREE" "LHostedCalls$Holding;") "HostedCalls$Holding") (fl_ho _ (List.mem_of_getElem? (i := 0) rfl)))
  have z0 := va_Zof (A := fun q => s.heap.size ≤ q) (hts (.laysStatic "HostedCalls$Holding" "FREE" "LHostedCalls$Holding;") (tb_st _ (List.mem_of_getElem? (i := 0) rfl))) (hts (.initialized "HostedCalls$Holding") (tb_st _ (List.mem_of_getElem? (i := 5) rfl))) ev0 hA
  obtain ⟨a1, -, -, -, ev1, -⟩ := Cond.exactly_spec (fl (.exactly (.static "HostedCalls$Holding" "OWNED" "LHostedCalls$Holding;") "HostedCalls$Holding") (fl_ho _ (List.mem_of_getElem? (i := 1) rfl)))
  have z1 := va_Zof (A := fun q => s.heap.size ≤ q) (hts (.laysStatic "HostedCalls$Holding" "OWNED" "LHostedCalls$Holding;") (tb_st _ (List.mem_of_getElem? (i := 1) rfl))) (hts (.initialized "HostedCalls$Holding") (tb_st _ (List.mem_of_getElem? (i := 5) rfl))) ev1 hA
  obtain ⟨a2, -, -, -, ev2, -⟩ := Cond.exactly_spec (fl (.exactly (.static "HostedCalls$Holding" "LENT" "LHostedCalls$Holding;") "HostedCalls$Holding") (fl_ho _ (List.mem_of_getElem? (i := 2) rfl)))
  have z2 := va_Zof (A := fun q => s.heap.size ≤ q) (hts (.laysStatic "HostedCalls$Holding" "LENT" "LHostedCalls$Holding;") (tb_st _ (List.mem_of_getElem? (i := 2) rfl))) (hts (.initialized "HostedCalls$Holding") (tb_st _ (List.mem_of_getElem? (i := 5) rfl))) ev2 hA
  obtain ⟨a3, -, -, -, ev3, -⟩ := Cond.exactly_spec (fl (.exactly (.static "HostedCalls$Holding" "TAKEN" "LHostedCalls$Holding;") "HostedCalls$Holding") (fl_ho _ (List.mem_of_getElem? (i := 3) rfl)))
  have z3 := va_Zof (A := fun q => s.heap.size ≤ q) (hts (.laysStatic "HostedCalls$Holding" "TAKEN" "LHostedCalls$Holding;") (tb_st _ (List.mem_of_getElem? (i := 3) rfl))) (hts (.initialized "HostedCalls$Holding") (tb_st _ (List.mem_of_getElem? (i := 5) rfl))) ev3 hA
  obtain ⟨a4, -, -, -, ev4, -⟩ := Cond.exactly_spec (fl (.exactly (.static "HostedCalls$Holding" "ARRIVING" "LHostedCalls$Holding;") "HostedCalls$Holding") (fl_ho _ (List.mem_of_getElem? (i := 4) rfl)))
  have z4 := va_Zof (A := fun q => s.heap.size ≤ q) (hts (.laysStatic "HostedCalls$Holding" "ARRIVING" "LHostedCalls$Holding;") (tb_st _ (List.mem_of_getElem? (i := 4) rfl))) (hts (.initialized "HostedCalls$Holding") (tb_st _ (List.mem_of_getElem? (i := 5) rfl))) ev4 hA
  have n01 := ne_refs (fl _ (fl_ne _ (List.mem_of_getElem? (i := 0) rfl))) ev0 ev1
  have n02 := ne_refs (fl _ (fl_ne _ (List.mem_of_getElem? (i := 1) rfl))) ev0 ev2
  have n12 := ne_refs (fl _ (fl_ne _ (List.mem_of_getElem? (i := 2) rfl))) ev1 ev2
  have n04 := ne_refs (fl _ (fl_ne _ (List.mem_of_getElem? (i := 3) rfl))) ev0 ev4
  have n14 := ne_refs (fl _ (fl_ne _ (List.mem_of_getElem? (i := 4) rfl))) ev1 ev4
  have n24 := ne_refs (fl _ (fl_ne _ (List.mem_of_getElem? (i := 5) rfl))) ev2 ev4
  have n03 := ne_refs (fl _ (fl_ne _ (List.mem_of_getElem? (i := 6) rfl))) ev0 ev3
  have n13 := ne_refs (fl _ (fl_ne _ (List.mem_of_getElem? (i := 7) rfl))) ev1 ev3
  have n23 := ne_refs (fl _ (fl_ne _ (List.mem_of_getElem? (i := 8) rfl))) ev2 ev3
  have n43 := ne_refs (fl _ (fl_ne _ (List.mem_of_getElem? (i := 9) rfl))) ev4 ev3
  obtain ⟨ta, eta, Tta⟩ := va_Tof (A := fun q => s.heap.size ≤ q) (tm := (.static "HostedCalls" "ALIGNMENTS" "[I")) (ty := .int) (N := 13) (f := tbA) (by decide) (fl _ (fl_ALIGNMENTS _ (List.mem_of_getElem? (i := 0) rfl))) (va_eqv (fl _ (fl_ALIGNMENTS _ (List.mem_of_getElem? (i := 1) rfl))) rfl) (fun j hj => by
    obtain rfl | rfl | rfl | rfl | rfl | rfl | rfl | rfl | rfl | rfl | rfl | rfl | rfl : j = 0 ∨ j = 1 ∨ j = 2 ∨ j = 3 ∨ j = 4 ∨ j = 5 ∨ j = 6 ∨ j = 7 ∨ j = 8 ∨ j = 9 ∨ j = 10 ∨ j = 11 ∨ j = 12 := by omega
    · exact va_eqv (fl _ (fl_ALIGNMENTS _ (List.mem_of_getElem? (i := 2) rfl))) rfl
    · exact va_eqv (fl _ (fl_ALIGNMENTS _ (List.mem_of_getElem? (i := 3) rfl))) rfl
    · exact va_eqv (fl _ (fl_ALIGNMENTS _ (List.mem_of_getElem? (i := 4) rfl))) rfl
    · exact va_eqv (fl _ (fl_ALIGNMENTS _ (List.mem_of_getElem? (i := 5) rfl))) rfl
    · exact va_eqv (fl _ (fl_ALIGNMENTS _ (List.mem_of_getElem? (i := 6) rfl))) rfl
    · exact va_eqv (fl _ (fl_ALIGNMENTS _ (List.mem_of_getElem? (i := 7) rfl))) rfl
    · exact va_eqv (fl _ (fl_ALIGNMENTS _ (List.mem_of_getElem? (i := 8) rfl))) rfl
    · exact va_eqv (fl _ (fl_ALIGNMENTS _ (List.mem_of_getElem? (i := 9) rfl))) rfl
    · exact va_eqv (fl _ (fl_ALIGNMENTS _ (List.mem_of_getElem? (i := 10) rfl))) rfl
    · exact va_eqv (fl _ (fl_ALIGNMENTS _ (List.mem_of_getElem? (i := 11) rfl))) rfl
    · exact va_eqv (fl _ (fl_ALIGNMENTS _ (List.mem_of_getElem? (i := 12) rfl))) rfl
    · exact va_eqv (fl _ (fl_ALIGNMENTS _ (List.mem_of_getElem? (i := 13) rfl))) rfl
    · exact va_eqv (fl _ (fl_ALIGNMENTS _ (List.mem_of_getElem? (i := 14) rfl))) rfl) hA
  have zta := va_Zof (A := fun q => s.heap.size ≤ q) (hts (.laysStatic "HostedCalls" "ALIGNMENTS" "[I") (tb_st _ (List.mem_of_getElem? (i := 6) rfl))) (hts (.initialized "HostedCalls") (tb_st _ (List.mem_of_getElem? (i := 8) rfl))) eta hA
  obtain ⟨tz, etz, Ttz⟩ := va_Tof (A := fun q => s.heap.size ≤ q) (tm := (.static "HostedCalls" "SIZES" "[I")) (ty := .int) (N := 13) (f := tbS) (by decide) (fl _ (fl_SIZES _ (List.mem_of_getElem? (i := 0) rfl))) (va_eqv (fl _ (fl_SIZES _ (List.mem_of_getElem? (i := 1) rfl))) rfl) (fun j hj => by
    obtain rfl | rfl | rfl | rfl | rfl | rfl | rfl | rfl | rfl | rfl | rfl | rfl | rfl : j = 0 ∨ j = 1 ∨ j = 2 ∨ j = 3 ∨ j = 4 ∨ j = 5 ∨ j = 6 ∨ j = 7 ∨ j = 8 ∨ j = 9 ∨ j = 10 ∨ j = 11 ∨ j = 12 := by omega
    · exact va_eqv (fl _ (fl_SIZES _ (List.mem_of_getElem? (i := 2) rfl))) rfl
    · exact va_eqv (fl _ (fl_SIZES _ (List.mem_of_getElem? (i := 3) rfl))) rfl
    · exact va_eqv (fl _ (fl_SIZES _ (List.mem_of_getElem? (i := 4) rfl))) rfl
    · exact va_eqv (fl _ (fl_SIZES _ (List.mem_of_getElem? (i := 5) rfl))) rfl
    · exact va_eqv (fl _ (fl_SIZES _ (List.mem_of_getElem? (i := 6) rfl))) rfl
    · exact va_eqv (fl _ (fl_SIZES _ (List.mem_of_getElem? (i := 7) rfl))) rfl
    · exact va_eqv (fl _ (fl_SIZES _ (List.mem_of_getElem? (i := 8) rfl))) rfl
    · exact va_eqv (fl _ (fl_SIZES _ (List.mem_of_getElem? (i := 9) rfl))) rfl
    · exact va_eqv (fl _ (fl_SIZES _ (List.mem_of_getElem? (i := 10) rfl))) rfl
    · exact va_eqv (fl _ (fl_SIZES _ (List.mem_of_getElem? (i := 11) rfl))) rfl
    · exact va_eqv (fl _ (fl_SIZES _ (List.mem_of_getElem? (i := 12) rfl))) rfl
    · exact va_eqv (fl _ (fl_SIZES _ (List.mem_of_getElem? (i := 13) rfl))) rfl
    · exact va_eqv (fl _ (fl_SIZES _ (List.mem_of_getElem? (i := 14) rfl))) rfl) hA
  have ztz := va_Zof (A := fun q => s.heap.size ≤ q) (hts (.laysStatic "HostedCalls" "SIZES" "[I") (tb_st _ (List.mem_of_getElem? (i := 7) rfl))) (hts (.initialized "HostedCalls") (tb_st _ (List.mem_of_getElem? (i := 8) rfl))) etz hA
  have q1 := vx_Zqof (A := fun q => s.heap.size ≤ q) (hts _ (tb_st _ (List.mem_of_getElem? (i := 9) rfl))) (hts _ (tb_st _ (List.mem_of_getElem? (i := 11) rfl))) (fl _ (fl_th _ (List.mem_of_getElem? (i := 0) rfl))) hA
  have q2 := vx_Zqof (A := fun q => s.heap.size ≤ q) (hts _ (tb_st _ (List.mem_of_getElem? (i := 10) rfl))) (hts _ (tb_st _ (List.mem_of_getElem? (i := 11) rfl))) (fl _ (fl_th _ (List.mem_of_getElem? (i := 1) rfl))) hA
  have i0 := hts (.instantiable R_hc 18) (tb_in _ (List.mem_of_getElem? (i := 0) rfl))
  obtain ⟨c0, s0, K0⟩ := u_known hts tu_hc i0
  have i1 := hts (.instantiable R_ty 9) (tb_in _ (List.mem_of_getElem? (i := 1) rfl))
  obtain ⟨c1, s1, K1⟩ := u_known hts tu_ty i1
  have i2 := hts (.instantiable R_fu 3) (tb_in _ (List.mem_of_getElem? (i := 2) rfl))
  obtain ⟨c2, s2, K2⟩ := u_known hts tu_fu i2
  have i3 := hts (.instantiable R_tr 2) (tb_in _ (List.mem_of_getElem? (i := 3) rfl))
  obtain ⟨c3, s3, K3⟩ := u_known hts tu_tr i3
  have i4 := hts (.instantiable R_ha 5) (tb_in _ (List.mem_of_getElem? (i := 4) rfl))
  obtain ⟨c4, s4, K4⟩ := u_known hts tu_ha i4
  have i5 := hts (.instantiable R_in 4) (tb_in _ (List.mem_of_getElem? (i := 5) rfl))
  obtain ⟨c5, s5, K5⟩ := u_known hts tu_in i5
  have i6 := hts (.instantiable R_it 4) (tb_in _ (List.mem_of_getElem? (i := 6) rfl))
  obtain ⟨c6, s6, K6⟩ := u_known hts tu_it i6
  have i7 := hts (.instantiable R_re 4) (tb_in _ (List.mem_of_getElem? (i := 7) rfl))
  obtain ⟨c7, s7, K7⟩ := u_known hts tu_re i7
  have i8 := hts (.instantiable R_wt 5) (tb_in _ (List.mem_of_getElem? (i := 8) rfl))
  obtain ⟨c8, s8, K8⟩ := u_known hts tu_wt i8
  have i9 := hts (.instantiable R_mo 60) (tb_in _ (List.mem_of_getElem? (i := 9) rfl))
  obtain ⟨c9, s9, K9⟩ := u_known hts tu_mo i9
  obtain ⟨cH, kH, hfH, -⟩ := Cond.instantiable_spec i0
  obtain ⟨k0, g0, p0, f0, h0, t0⟩ := Cond.arrayClass_spec (hts (.arrayClass .int) (tb_st _ (List.mem_of_getElem? (i := 16) rfl)))
  have r0 : ArrOfT s k0 .int ∧ va_RA s k0 .int := ⟨fun N z => ⟨(fun k h => by cases h), g0, h0, p0, t0⟩, f0⟩
  obtain ⟨k1, g1, p1, f1, h1, t1⟩ := Cond.arrayClass_spec (hts (.arrayClass .boolean) (tb_st _ (List.mem_of_getElem? (i := 17) rfl)))
  have r1 : ArrOfT s k1 .boolean ∧ va_RA s k1 .boolean := ⟨fun N z => ⟨(fun k h => by cases h), g1, h1, p1, t1⟩, f1⟩
  obtain ⟨k2, g2, p2, f2, h2, t2⟩ := Cond.arrayClass_spec (hts (.arrayClass .long) (tb_st _ (List.mem_of_getElem? (i := 18) rfl)))
  have r2 : ArrOfT s k2 .long ∧ va_RA s k2 .long := ⟨fun N z => ⟨(fun k h => by cases h), g2, h2, p2, t2⟩, f2⟩
  have w3 := hts (.arrayOver (.object R_ty)) (tb_st _ (List.mem_of_getElem? (i := 12) rfl))
  obtain ⟨p3, k3, g3, u3, -, h3, t3, f3⟩ := Cond.arrayOver_spec w3
  have r3 : ArrOfT s k3 (.object R_ty) ∧ va_RA s k3 (.object R_ty) := ⟨fun N z => ⟨(fun k h => by cases h), g3, h3, p3, t3⟩, g3, p3, h3, t3, u3, f3⟩
  have w4 := hts (.arrayOver (.object R_in)) (tb_st _ (List.mem_of_getElem? (i := 13) rfl))
  obtain ⟨p4, k4, g4, u4, -, h4, t4, f4⟩ := Cond.arrayOver_spec w4
  have r4 : ArrOfT s k4 (.object R_in) ∧ va_RA s k4 (.object R_in) := ⟨fun N z => ⟨(fun k h => by cases h), g4, h4, p4, t4⟩, g4, p4, h4, t4, u4, f4⟩
  have w5 := hts (.arrayOver (.object R_fu)) (tb_st _ (List.mem_of_getElem? (i := 14) rfl))
  obtain ⟨p5, k5, g5, u5, -, h5, t5, f5⟩ := Cond.arrayOver_spec w5
  have r5 : ArrOfT s k5 (.object R_fu) ∧ va_RA s k5 (.object R_fu) := ⟨fun N z => ⟨(fun k h => by cases h), g5, h5, p5, t5⟩, g5, p5, h5, t5, u5, f5⟩
  have w6 := hts (.arrayOver (.object R_ha)) (tb_st _ (List.mem_of_getElem? (i := 15) rfl))
  obtain ⟨p6, k6, g6, u6, -, h6, t6, f6⟩ := Cond.arrayOver_spec w6
  have r6 : ArrOfT s k6 (.object R_ha) ∧ va_RA s k6 (.object R_ha) := ⟨fun N z => ⟨(fun k h => by cases h), g6, h6, p6, t6⟩, g6, p6, h6, t6, u6, f6⟩
  refine ⟨(fun i => match i with | 0 => c0 | 1 => c1 | 2 => c2 | 3 => c3 | 4 => c4 | 5 => c5 | 6 => c6 | 7 => c7 | 8 => c8 | _ => c9, fun i => match i with | 0 => s0 | 1 => s1 | 2 => s2 | 3 => s3 | 4 => s4 | 5 => s5 | 6 => s6 | 7 => s7 | 8 => s8 | _ => s9), fun i => match i with | 0 => k0 | 1 => k1 | 2 => k2 | 3 => k3 | 4 => k4 | 5 => k5 | _ => k6, fun i => match i with | 0 => a0 | 1 => a1 | 2 => a2 | 3 => a3 | _ => a4, fun k => match (Term.string R_hc k).eval #[] s none [] s with | some (.ref a) => a | _ => 0, ta, tz, ⟨fun c q hq => ?_, fun k q hq => ?_⟩, fun i j hi hj e => ?_, fun i => ?_, ⟨zta, ztz, Tta, Ttz⟩, fun w hw => nw_of (lw_nwk w hw) (hts w (tb_nw w hw)), fun p hp => ?_, ⟨q1, q2⟩, ⟨va_AO.of w3, va_AO.of w4, va_AO.of w5, va_AO.of w6⟩, fun p hp => va_Nc.of (fl _ (fl_nc p hp)), hX, hA b hX.lt⟩
  · rcases c with _ | _ | _ | _ | _ | _ | _ | _ | _ | _ | c
    · cases hq; exact K0
    · cases hq; exact K1
    · cases hq; exact K2
    · cases hq; exact K3
    · cases hq; exact K4
    · cases hq; exact K5
    · cases hq; exact K6
    · cases hq; exact K7
    · cases hq; exact K8
    · cases hq; exact K9
    · exact absurd hq (by intro z; cases z)
  · rcases k with _ | _ | _ | _ | _ | _ | _ | k
    · cases hq; exact r0
    · cases hq; exact r1
    · cases hq; exact r2
    · cases hq; exact r3
    · cases hq; exact r4
    · cases hq; exact r5
    · cases hq; exact r6
    · exact absurd hq (by intro z; cases z)
  · obtain rfl | rfl | rfl | rfl | rfl : i = 0 ∨ i = 1 ∨ i = 2 ∨ i = 3 ∨ i = 4 := by omega
    · obtain rfl | rfl | rfl | rfl | rfl : j = 0 ∨ j = 1 ∨ j = 2 ∨ j = 3 ∨ j = 4 := by omega
      all_goals first | rfl | exact absurd e n01 | exact absurd e n02 | exact absurd e n12 | exact absurd e n04 | exact absurd e n14 | exact absurd e n24 | exact absurd e n03 | exact absurd e n13 | exact absurd e n23 | exact absurd e n43 | exact absurd e.symm n01 | exact absurd e.symm n02 | exact absurd e.symm n12 | exact absurd e.symm n04 | exact absurd e.symm n14 | exact absurd e.symm n24 | exact absurd e.symm n03 | exact absurd e.symm n13 | exact absurd e.symm n23 | exact absurd e.symm n43
    · obtain rfl | rfl | rfl | rfl | rfl : j = 0 ∨ j = 1 ∨ j = 2 ∨ j = 3 ∨ j = 4 := by omega
      all_goals first | rfl | exact absurd e n01 | exact absurd e n02 | exact absurd e n12 | exact absurd e n04 | exact absurd e n14 | exact absurd e n24 | exact absurd e n03 | exact absurd e n13 | exact absurd e n23 | exact absurd e n43 | exact absurd e.symm n01 | exact absurd e.symm n02 | exact absurd e.symm n12 | exact absurd e.symm n04 | exact absurd e.symm n14 | exact absurd e.symm n24 | exact absurd e.symm n03 | exact absurd e.symm n13 | exact absurd e.symm n23 | exact absurd e.symm n43
    · obtain rfl | rfl | rfl | rfl | rfl : j = 0 ∨ j = 1 ∨ j = 2 ∨ j = 3 ∨ j = 4 := by omega
      all_goals first | rfl | exact absurd e n01 | exact absurd e n02 | exact absurd e n12 | exact absurd e n04 | exact absurd e n14 | exact absurd e n24 | exact absurd e n03 | exact absurd e n13 | exact absurd e n23 | exact absurd e n43 | exact absurd e.symm n01 | exact absurd e.symm n02 | exact absurd e.symm n12 | exact absurd e.symm n04 | exact absurd e.symm n14 | exact absurd e.symm n24 | exact absurd e.symm n03 | exact absurd e.symm n13 | exact absurd e.symm n23 | exact absurd e.symm n43
    · obtain rfl | rfl | rfl | rfl | rfl : j = 0 ∨ j = 1 ∨ j = 2 ∨ j = 3 ∨ j = 4 := by omega
      all_goals first | rfl | exact absurd e n01 | exact absurd e n02 | exact absurd e n12 | exact absurd e n04 | exact absurd e n14 | exact absurd e n24 | exact absurd e n03 | exact absurd e n13 | exact absurd e n23 | exact absurd e n43 | exact absurd e.symm n01 | exact absurd e.symm n02 | exact absurd e.symm n12 | exact absurd e.symm n04 | exact absurd e.symm n14 | exact absurd e.symm n24 | exact absurd e.symm n03 | exact absurd e.symm n13 | exact absurd e.symm n23 | exact absurd e.symm n43
    · obtain rfl | rfl | rfl | rfl | rfl : j = 0 ∨ j = 1 ∨ j = 2 ∨ j = 3 ∨ j = 4 := by omega
      all_goals first | rfl | exact absurd e n01 | exact absurd e n02 | exact absurd e n12 | exact absurd e n04 | exact absurd e n14 | exact absurd e n24 | exact absurd e n03 | exact absurd e n13 | exact absurd e n23 | exact absurd e n43 | exact absurd e.symm n01 | exact absurd e.symm n02 | exact absurd e.symm n12 | exact absurd e.symm n04 | exact absurd e.symm n14 | exact absurd e.symm n24 | exact absurd e.symm n03 | exact absurd e.symm n13 | exact absurd e.symm n23 | exact absurd e.symm n43
  · rcases i with _ | _ | _ | _ | i
    · exact z0
    · exact z1
    · exact z2
    · exact z3
    · exact z4
  · have h0 : (Cond.stringRef R_hc p.1 p.2.1).before #[] s = true := hts _ (tb_str p hp)
    obtain ⟨-, -, -, a, -, -, -, -, -, hev⟩ := Cond.stringRef_spec hfH h0
    refine ⟨h0, ?_⟩
    simp only [hev]
