/-! what stays as it was at the start -/
def nwk : Cond → Bool
  | .methodLinkNest .. => true
  | .fieldLinkNest .. => true
  | .declares .. => true
  | .castable .. => true
  | _ => false
theorem nw_warm {w : Cond} (h : nwk w = true) {s U : State} (hW : s.WarmedH U.vm) (hz : va_Nw w s) : va_Nw w U := by
  unfold nwk at h
  split at h
  · exact va_Nw.warmM hW hz
  · exact va_Nw.warmF hW hz
  · exact va_Nw.warmD hW hz
  · exact va_Nw.warmC hW hz
  · cases h
theorem nw_same {w : Cond} (h : nwk w = true) {u U : State} (e : u.vm = U.vm) (hz : va_Nw w u) : va_Nw w U := by
  unfold nwk at h
  split at h
  · exact va_Nw.same rfl e hz
  · exact va_Nw.same rfl e hz
  · exact va_Nw.same rfl e hz
  · exact va_Nw.same rfl e hz
  · cases h
theorem nw_of {w : Cond} (h : nwk w = true) {A : Array Value} {U : State} (hb : w.before A U = true) : va_Nw w U := by
  unfold nwk at h
  split at h
  · exact va_Nw.of rfl hb
  · exact va_Nw.of rfl hb
  · exact va_Nw.of rfl hb
  · exact va_Nw.of rfl hb
  · cases h
def lw_nw : List Cond := hc_nw ++ thr_l.flatMap (fun p => (ox_at R_hc p.2.2.1 p.2.2.2 x_nm).filter (fun w => !goodWord w))
theorem lw_nwk : ∀ w ∈ lw_nw, nwk w = true := by decide +kernel
def lw_Zz (hd sa : Nat → Nat) (ta tz b L : Nat) (xs : Nat → Int32) : (Nat → Prop) → State → Heap → Prop := fun A U H =>
  (∀ i, va_Z "HostedCalls$Holding" (ho_nm i) "LHostedCalls$Holding;" (.ref (hd i)) A U H) ∧
  (va_Z "HostedCalls" "ALIGNMENTS" "[I" (.ref ta) A U H ∧ va_Z "HostedCalls" "SIZES" "[I" (.ref tz) A U H ∧ va_T .int ta 13 tbA A U H ∧ va_T .int tz 13 tbS A U H) ∧
  (∀ w ∈ lw_nw, va_Nw w U) ∧ (∀ p ∈ thr_l, vk_R R_hc p.1 p.2.1 (sa p.1) U) ∧
  (vx_Zq Bundle.tN "UNASSIGNED_STACK" Bundle.steD A U H ∧ vx_Zq Bundle.tN "SUPPRESSED_SENTINEL" Bundle.listD A U H) ∧
  (va_AO R_ty U ∧ va_AO R_in U ∧ va_AO R_fu U ∧ va_AO R_ha U) ∧ (∀ p ∈ lw_nc, va_Nc p.1 p.2 U) ∧ va_X b L xs U H ∧ ¬ A b
theorem lw_Zok {hd sa : Nat → Nat} {ta tz b L : Nat} {xs : Nat → Int32} : ev_Zok (lw_Zz hd sa ta tz b L xs) := by
  refine ⟨?_, ?_, ?_, ?_⟩
  · rintro A s U H hW ⟨z1, ⟨z2, z3, z4, z5⟩, z6, z7, ⟨z8, z9⟩, ⟨y1, y2, y3, y4⟩, z10, z11, z12⟩
    exact ⟨fun i => (z1 i).moved hW.alike, ⟨z2.moved hW.alike, z3.moved hW.alike, z4.moved hW.alike, z5.moved hW.alike⟩, fun w hw => nw_warm (lw_nwk w hw) hW (z6 w hw), fun p hp => (z7 p hp).warm hW, ⟨vx_Zq.moved hW.alike z8, vx_Zq.moved hW.alike z9⟩, ⟨va_AO.moved hW.alike y1, va_AO.moved hW.alike y2, va_AO.moved hW.alike y3, va_AO.moved hW.alike y4⟩, fun p hp => va_Nc.moved hW.alike (z10 p hp), va_X.moved hW.alike z11, z12⟩
  · rintro A U H H1 ⟨z1, ⟨z2, z3, z4, z5⟩, z6, z7, ⟨z8, z9⟩, y, z10, z11, z12⟩ hq
    exact ⟨fun i => (z1 i).kept hq, ⟨z2.kept hq, z3.kept hq, z4.kept hq, z5.kept hq⟩, z6, z7, ⟨z8.kept hq, z9.kept hq⟩, y, z10, z11.kept (hq b z11.lt z12), z12⟩
  · rintro A B U H ⟨z1, ⟨z2, z3, z4, z5⟩, z6, z7, ⟨z8, z9⟩, y, z10, z11, z12⟩ hAB
    exact ⟨fun i => (z1 i).narrow hAB, ⟨z2.narrow hAB, z3.narrow hAB, z4.narrow hAB, z5.narrow hAB⟩, z6, z7, ⟨z8.narrow hAB, z9.narrow hAB⟩, y, z10, z11, fun h => z12 (hAB b h)⟩
  · rintro A u U H e ⟨z1, ⟨z2, z3, z4, z5⟩, z6, z7, ⟨z8, z9⟩, ⟨y1, y2, y3, y4⟩, z10, z11, z12⟩
    have hW : u.vm.Alike U.vm := by rw [e]; exact Vm.Alike.refl U.vm
    exact ⟨fun i => (z1 i).moved hW, ⟨z2.moved hW, z3.moved hW, z4.moved hW, z5.moved hW⟩, fun w hw => nw_same (lw_nwk w hw) e (z6 w hw), fun p hp => (z7 p hp).same e.symm, ⟨vx_Zq.moved hW z8, vx_Zq.moved hW z9⟩, ⟨va_AO.moved hW y1, va_AO.moved hW y2, va_AO.moved hW y3, va_AO.moved hW y4⟩, fun p hp => va_Nc.moved hW (z10 p hp), va_X.moved hW z11, z12⟩
theorem lw_Hof {l : Launch} {hd sa : Nat → Nat} {ta tz b L : Nat} {xs : Nat → Int32} (hl : l.stackTraces = false) (hD : ho_D hd) : lw_H l (lw_Zz hd sa ta tz b L xs) hd ta tz b L xs := by
  refine ⟨hl, ?_, lw_Zok, ?_, ?_, ?_, ?_, hD, ?_, ?_⟩
  · intro is text ic cls hm
    refine ⟨sa is, ?_⟩
    rintro A s ⟨z1, z2, z6, z7, ⟨z8, z9⟩, y, z10, z11, z12⟩
    exact ⟨z7 _ hm, z8, z9, fun w hw => z6 w (List.mem_append_right _ (List.mem_flatMap.mpr ⟨_, hm, hw⟩))⟩
  · rintro A s ⟨z1, z2, z6, -⟩ w hw
    exact z6 w (List.mem_append_left _ hw)
  · rintro s ⟨A, z1, z2, z6, z7, z8, y, -⟩
    exact y
  · rintro A s ⟨z1, z2, -⟩
    exact z2
  · rintro A s ⟨z1, -⟩
    exact z1
  · rintro A s ⟨z1, z2, z6, z7, z8, y, z10, -⟩
    exact z10
  · rintro A s ⟨z1, z2, z6, z7, z8, y, z10, z11⟩
    exact z11
