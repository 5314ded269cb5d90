/-! the helpers: what the class answers or throws, as numbers -/
def lw_o (ks : Nat → ClassId) (oq : Nat) (o : Nat → Int64) : Nat × va_E := (oq, .inl (ks 2, 1, .inr (.inl o)))
def lw_en : List String := ["java/lang/IllegalArgumentException", "java/lang/IllegalStateException", "java/lang/IndexOutOfBoundsException", "java/lang/UnsupportedOperationException", "java/util/NoSuchElementException"]
def lw_nc : List (String × String) := (lw_en.flatMap (fun a => lw_en.map (fun b => (a, b)))).filter (fun p => p.1 != p.2)
def lw_ZN (Z : (Nat → Prop) → State → Heap → Prop) : Prop := ∀ (A : Nat → Prop) (s : State), Z A s s.heap → ∀ p ∈ lw_nc, va_Nc p.1 p.2 s
theorem gw_at0 {K : List Nat} {am : Nat → Nat} {ks : Nat → ClassId} {N : Nat → Nat} {S : gS} (h : 0 ∈ K) : (gw K am ks N S)[K.idxOf 0]? = some (am 0, .inr (0, (List.range 18).map (S.1 0))) := by
  rw [gw_at h, gce_o (c := 0) rfl (by decide)]; rfl
set_option maxHeartbeats 4000000 in
set_option maxRecDepth 100000 in
theorem hw_part {l : Launch} {D : va_G} {tl : List (ClassId × FieldType)} {Z : (Nat → Prop) → State → Heap → Prop} {ks : Nat → ClassId} {K : List Nat} {am N : Nat → Nat} {S : gS} {oq : Nat} {o : Nat → Int64} {Q : Option Value → va_W → Prop} {X : String → va_W → Prop} (hZ : ev_Zok Z) (hnc : lw_ZN Z) (p0 : Int32) (hK : 0 ∈ K) (hM : MX (hc_π l D ks tl Z) (m_hc_part 21 1 6) 1 6 [.ref (am 0), .int p0] (gw K am ks N S) Q X) (hQ : ∀ r w, Q r w → ∃ y, r = some (.int y)) (hX : ∀ E w, X E w → ∃ c, cd_part E c) : MT (hc_π l D ks tl Z) m_lw_part 1 6 [.ref (am 0), .int p0, .ref oq] (gw K am ks N S ++ [lw_o ks oq o]) (fun r w => (∃ y w1, Q (some (.int y)) w1 ∧ r = some (.int 0) ∧ w = w1 ++ [lw_o ks oq (vp_updL o 0 y.toInt64)]) ∨ ∃ E c w1, X E w1 ∧ cd_part E c ∧ r = some (.int c) ∧ w = w1 ++ [lw_o ks oq o]) := by
  refine mt_ofH (hh := h_part) (by decide) rfl (Nat.le_of_ble_eq_true rfl) (ev_eq (lv' := [some (.ref (am 0)), some (.int p0), some (.ref oq), none]) ?_)
  refine ev_aload_2 0 d_lw_part_0 ?_
  refine ev_iconst_0 1 d_lw_part_1 ?_
  refine ev_aload_0 2 d_lw_part_2 ?_
  refine ev_iload_1 3 d_lw_part_3 ?_
  refine ev_callVX (ci := 0) 4 (K.idxOf 0) [.int p0] [.int 0, .ref oq] d_lw_part_4 hZ kw_part ⟨rfl, rfl, ⟨by decide, by decide⟩, by decide, by decide⟩ (at_l (gw_at0 hK)) rfl (mx_frame hZ hM [lw_o ks oq o]) ?_ ?_
  · rintro E' w ⟨w1, rfl, hx⟩
    obtain ⟨c, hc⟩ := hX E' w1 hx
    have hc0 := hc
    rcases hc with ⟨rfl, rfl⟩ | ⟨rfl, rfl⟩
    · refine ⟨[], ⟨0, 9, 12, 13⟩, [⟨0, 9, 15, 15⟩], rfl, fun z hz => absurd hz List.not_mem_nil, rfl, by decide, lw_cl13, fun q9 => ?_⟩
      refine ev_astore_3 12 d_lw_part_12 ?_ (hn := by exact Nat.le_of_ble_eq_true rfl)
      refine ev_iconst_1 13 d_lw_part_13 ?_
      exact ev_iret 14 d_lw_part_14 rfl (Or.inr ⟨_, _, w1, hx, hc0, rfl, rfl⟩)
    · refine ⟨[⟨0, 9, 12, 13⟩], ⟨0, 9, 15, 15⟩, [], rfl, ?_, rfl, by decide, lw_cl15, fun q9 => ?_⟩
      · intro z hz
        simp only [List.mem_cons, List.not_mem_nil, or_false] at hz
        subst hz
        exact Or.inr ⟨by decide, _, lw_cl13, fun A s hz9 => hnc A s hz9 ("java/lang/IllegalStateException", "java/lang/IllegalArgumentException") (by decide)⟩
      · refine ev_astore_3 15 d_lw_part_15 ?_ (hn := by exact Nat.le_of_ble_eq_true rfl)
        refine ev_iconst_2 16 d_lw_part_16 ?_
        exact ev_iret 17 d_lw_part_17 rfl (Or.inr ⟨_, _, w1, hx, hc0, rfl, rfl⟩)
  · rintro r w ⟨w1, rfl, hq⟩
    obtain ⟨y, rfl⟩ := hQ r w1 hq
    refine ev_eq (st' := [.int y, .int 0, .ref oq]) ?_
    refine ev_i2l 7 d_lw_part_7 ?_
    refine ev_last 8 w1.length 2 d_lw_part_8 at_e rfl (show vp_in (nI 0) 1 from vp_in_nI (by decide) (by decide)) ?_
    refine ev_eq (ws' := w1 ++ [lw_o ks oq (vp_updL o 0 y.toInt64)]) ?_ (h3 := set_e)
    refine ev_goto 9 18 d_lw_part_9 ?_
    refine ev_iconst_0 18 d_lw_part_18 ?_
    exact ev_iret 19 d_lw_part_19 rfl (Or.inl ⟨y, w1, hq, rfl, rfl⟩)
set_option maxHeartbeats 4000000 in
set_option maxRecDepth 100000 in
theorem hw_type {l : Launch} {D : va_G} {tl : List (ClassId × FieldType)} {Z : (Nat → Prop) → State → Heap → Prop} {ks : Nat → ClassId} {K : List Nat} {am N : Nat → Nat} {S : gS} {oq : Nat} {o : Nat → Int64} {Q : Option Value → va_W → Prop} {X : String → va_W → Prop} (hZ : ev_Zok Z) (hnc : lw_ZN Z) (p0 : Int32) (p1 : Int32) (hK : 0 ∈ K) (hM : MX (hc_π l D ks tl Z) (m_hc_type 21 4 27) 4 27 [.ref (am 0), .int p0, .int p1] (gw K am ks N S) Q X) (hQ : ∀ r w, Q r w → ∃ y, r = some (.int y)) (hX : ∀ E w, X E w → ∃ c, cd_type E c) : MT (hc_π l D ks tl Z) m_lw_type 4 27 [.ref (am 0), .int p0, .int p1, .ref oq] (gw K am ks N S ++ [lw_o ks oq o]) (fun r w => (∃ y w1, Q (some (.int y)) w1 ∧ r = some (.int 0) ∧ w = w1 ++ [lw_o ks oq (vp_updL o 0 y.toInt64)]) ∨ ∃ E c w1, X E w1 ∧ cd_type E c ∧ r = some (.int c) ∧ w = w1 ++ [lw_o ks oq o]) := by
  refine mt_ofH (hh := h_type) (by decide) rfl (Nat.le_of_ble_eq_true rfl) (ev_eq (lv' := [some (.ref (am 0)), some (.int p0), some (.int p1), some (.ref oq), none]) ?_)
  refine ev_aload_3 0 d_lw_type_0 ?_
  refine ev_iconst_0 1 d_lw_type_1 ?_
  refine ev_aload_0 2 d_lw_type_2 ?_
  refine ev_iload_1 3 d_lw_type_3 ?_
  refine ev_iload_2 4 d_lw_type_4 ?_
  refine ev_callVX (ci := 0) 5 (K.idxOf 0) [.int p0, .int p1] [.int 0, .ref oq] d_lw_type_5 hZ kw_type ⟨rfl, rfl, ⟨by decide, by decide⟩, by decide, by decide⟩ (at_l (gw_at0 hK)) rfl (mx_frame hZ hM [lw_o ks oq o]) ?_ ?_
  · rintro E' w ⟨w1, rfl, hx⟩
    obtain ⟨c, hc⟩ := hX E' w1 hx
    have hc0 := hc
    rcases hc with ⟨rfl, rfl⟩ | ⟨rfl, rfl⟩
    · refine ⟨[], ⟨0, 10, 13, 13⟩, [⟨0, 10, 17, 15⟩], rfl, fun z hz => absurd hz List.not_mem_nil, rfl, by decide, lw_cl13, fun q9 => ?_⟩
      refine ev_astore_4 13 d_lw_type_13 ?_ (hn := by exact Nat.le_of_ble_eq_true rfl)
      refine ev_iconst_1 15 d_lw_type_15 ?_
      exact ev_iret 16 d_lw_type_16 rfl (Or.inr ⟨_, _, w1, hx, hc0, rfl, rfl⟩)
    · refine ⟨[⟨0, 10, 13, 13⟩], ⟨0, 10, 17, 15⟩, [], rfl, ?_, rfl, by decide, lw_cl15, fun q9 => ?_⟩
      · intro z hz
        simp only [List.mem_cons, List.not_mem_nil, or_false] at hz
        subst hz
        exact Or.inr ⟨by decide, _, lw_cl13, fun A s hz9 => hnc A s hz9 ("java/lang/IllegalStateException", "java/lang/IllegalArgumentException") (by decide)⟩
      · refine ev_astore_4 17 d_lw_type_17 ?_ (hn := by exact Nat.le_of_ble_eq_true rfl)
        refine ev_iconst_2 19 d_lw_type_19 ?_
        exact ev_iret 20 d_lw_type_20 rfl (Or.inr ⟨_, _, w1, hx, hc0, rfl, rfl⟩)
  · rintro r w ⟨w1, rfl, hq⟩
    obtain ⟨y, rfl⟩ := hQ r w1 hq
    refine ev_eq (st' := [.int y, .int 0, .ref oq]) ?_
    refine ev_i2l 8 d_lw_type_8 ?_
    refine ev_last 9 w1.length 2 d_lw_type_9 at_e rfl (show vp_in (nI 0) 1 from vp_in_nI (by decide) (by decide)) ?_
    refine ev_eq (ws' := w1 ++ [lw_o ks oq (vp_updL o 0 y.toInt64)]) ?_ (h3 := set_e)
    refine ev_goto 10 21 d_lw_type_10 ?_
    refine ev_iconst_0 21 d_lw_type_21 ?_
    exact ev_iret 22 d_lw_type_22 rfl (Or.inl ⟨y, w1, hq, rfl, rfl⟩)
set_option maxHeartbeats 4000000 in
set_option maxRecDepth 100000 in
theorem hw_layout {l : Launch} {D : va_G} {tl : List (ClassId × FieldType)} {Z : (Nat → Prop) → State → Heap → Prop} {ks : Nat → ClassId} {K : List Nat} {am N : Nat → Nat} {S : gS} {oq : Nat} {o : Nat → Int64} {Q : Option Value → va_W → Prop} {X : String → va_W → Prop} (hZ : ev_Zok Z) (hnc : lw_ZN Z) (p0 : Int32) (p1 : Int32) (hK : 0 ∈ K) (hM : MX (hc_π l D ks tl Z) (m_hc_layout 21 1 6) 1 6 [.ref (am 0), .int p0, .int p1] (gw K am ks N S) Q X) (hQ : ∀ r w, Q r w → ∃ y, r = some (.int y)) (hX : ∀ E w, X E w → ∃ c, cd_layout E c) : MT (hc_π l D ks tl Z) m_lw_layout 1 6 [.ref (am 0), .int p0, .int p1, .ref oq] (gw K am ks N S ++ [lw_o ks oq o]) (fun r w => (∃ y w1, Q (some (.int y)) w1 ∧ r = some (.int 0) ∧ w = w1 ++ [lw_o ks oq (vp_updL o 0 y.toInt64)]) ∨ ∃ E c w1, X E w1 ∧ cd_layout E c ∧ r = some (.int c) ∧ w = w1 ++ [lw_o ks oq o]) := by
  refine mt_ofH (hh := h_layout) (by decide) rfl (Nat.le_of_ble_eq_true rfl) (ev_eq (lv' := [some (.ref (am 0)), some (.int p0), some (.int p1), some (.ref oq), none]) ?_)
  refine ev_aload_3 0 d_lw_layout_0 ?_
  refine ev_iconst_0 1 d_lw_layout_1 ?_
  refine ev_aload_0 2 d_lw_layout_2 ?_
  refine ev_iload_1 3 d_lw_layout_3 ?_
  refine ev_iload_2 4 d_lw_layout_4 ?_
  refine ev_callVX (ci := 0) 5 (K.idxOf 0) [.int p0, .int p1] [.int 0, .ref oq] d_lw_layout_5 hZ kw_layout ⟨rfl, rfl, ⟨by decide, by decide⟩, by decide, by decide⟩ (at_l (gw_at0 hK)) rfl (mx_frame hZ hM [lw_o ks oq o]) ?_ ?_
  · rintro E' w ⟨w1, rfl, hx⟩
    obtain ⟨c, hc⟩ := hX E' w1 hx
    have hc0 := hc
    rcases hc with ⟨rfl, rfl⟩ | ⟨rfl, rfl⟩
    · refine ⟨[], ⟨0, 10, 13, 13⟩, [⟨0, 10, 17, 24⟩], rfl, fun z hz => absurd hz List.not_mem_nil, rfl, by decide, lw_cl13, fun q9 => ?_⟩
      refine ev_astore_4 13 d_lw_layout_13 ?_ (hn := by exact Nat.le_of_ble_eq_true rfl)
      refine ev_iconst_1 15 d_lw_layout_15 ?_
      exact ev_iret 16 d_lw_layout_16 rfl (Or.inr ⟨_, _, w1, hx, hc0, rfl, rfl⟩)
    · refine ⟨[⟨0, 10, 13, 13⟩], ⟨0, 10, 17, 24⟩, [], rfl, ?_, rfl, by decide, lw_cl24, fun q9 => ?_⟩
      · intro z hz
        simp only [List.mem_cons, List.not_mem_nil, or_false] at hz
        subst hz
        exact Or.inr ⟨by decide, _, lw_cl13, fun A s hz9 => hnc A s hz9 ("java/lang/IndexOutOfBoundsException", "java/lang/IllegalArgumentException") (by decide)⟩
      · refine ev_astore_4 17 d_lw_layout_17 ?_ (hn := by exact Nat.le_of_ble_eq_true rfl)
        refine ev_iconst_2 19 d_lw_layout_19 ?_
        exact ev_iret 20 d_lw_layout_20 rfl (Or.inr ⟨_, _, w1, hx, hc0, rfl, rfl⟩)
  · rintro r w ⟨w1, rfl, hq⟩
    obtain ⟨y, rfl⟩ := hQ r w1 hq
    refine ev_eq (st' := [.int y, .int 0, .ref oq]) ?_
    refine ev_i2l 8 d_lw_layout_8 ?_
    refine ev_last 9 w1.length 2 d_lw_layout_9 at_e rfl (show vp_in (nI 0) 1 from vp_in_nI (by decide) (by decide)) ?_
    refine ev_eq (ws' := w1 ++ [lw_o ks oq (vp_updL o 0 y.toInt64)]) ?_ (h3 := set_e)
    refine ev_goto 10 21 d_lw_layout_10 ?_
    refine ev_iconst_0 21 d_lw_layout_21 ?_
    exact ev_iret 22 d_lw_layout_22 rfl (Or.inl ⟨y, w1, hq, rfl, rfl⟩)
set_option maxHeartbeats 4000000 in
set_option maxRecDepth 100000 in
theorem hw_fits {l : Launch} {D : va_G} {tl : List (ClassId × FieldType)} {Z : (Nat → Prop) → State → Heap → Prop} {ks : Nat → ClassId} {K : List Nat} {am N : Nat → Nat} {S : gS} {oq : Nat} {o : Nat → Int64} {Q : Option Value → va_W → Prop} {X : String → va_W → Prop} (hZ : ev_Zok Z) (hnc : lw_ZN Z) (p0 : Int32) (p1 : Int32) (hK : 0 ∈ K) (hM : MX (hc_π l D ks tl Z) (m_hc_fits 21 1 6) 1 6 [.ref (am 0), .int p0, .int p1] (gw K am ks N S) Q X) (hQ : ∀ r w, Q r w → ∃ y, r = some (.int y)) (hX : ∀ E w, X E w → ∃ c, cd_fits E c) : MT (hc_π l D ks tl Z) m_lw_fits 1 6 [.ref (am 0), .int p0, .int p1, .ref oq] (gw K am ks N S ++ [lw_o ks oq o]) (fun r w => (∃ y w1, Q (some (.int y)) w1 ∧ r = some (.int 0) ∧ w = w1 ++ [lw_o ks oq (vp_updL o 0 y.toInt64)]) ∨ ∃ E c w1, X E w1 ∧ cd_fits E c ∧ r = some (.int c) ∧ w = w1 ++ [lw_o ks oq o]) := by
  refine mt_ofH (hh := h_fits) (by decide) rfl (Nat.le_of_ble_eq_true rfl) (ev_eq (lv' := [some (.ref (am 0)), some (.int p0), some (.int p1), some (.ref oq), none]) ?_)
  refine ev_aload_3 0 d_lw_fits_0 ?_
  refine ev_iconst_0 1 d_lw_fits_1 ?_
  refine ev_aload_0 2 d_lw_fits_2 ?_
  refine ev_iload_1 3 d_lw_fits_3 ?_
  refine ev_iload_2 4 d_lw_fits_4 ?_
  refine ev_callVX (ci := 0) 5 (K.idxOf 0) [.int p0, .int p1] [.int 0, .ref oq] d_lw_fits_5 hZ kw_fits ⟨rfl, rfl, ⟨by decide, by decide⟩, by decide, by decide⟩ (at_l (gw_at0 hK)) rfl (mx_frame hZ hM [lw_o ks oq o]) ?_ ?_
  · rintro E' w ⟨w1, rfl, hx⟩
    obtain ⟨c, hc⟩ := hX E' w1 hx
    have hc0 := hc
    obtain ⟨rfl, rfl⟩ := hc
    refine ⟨[], ⟨0, 10, 13, 13⟩, [], rfl, fun z hz => absurd hz List.not_mem_nil, rfl, by decide, lw_cl13, fun q9 => ?_⟩
    refine ev_astore_4 13 d_lw_fits_13 ?_ (hn := by exact Nat.le_of_ble_eq_true rfl)
    refine ev_iconst_1 15 d_lw_fits_15 ?_
    exact ev_iret 16 d_lw_fits_16 rfl (Or.inr ⟨_, _, w1, hx, hc0, rfl, rfl⟩)
  · rintro r w ⟨w1, rfl, hq⟩
    obtain ⟨y, rfl⟩ := hQ r w1 hq
    refine ev_eq (st' := [.int y, .int 0, .ref oq]) ?_
    refine ev_i2l 8 d_lw_fits_8 ?_
    refine ev_last 9 w1.length 2 d_lw_fits_9 at_e rfl (show vp_in (nI 0) 1 from vp_in_nI (by decide) (by decide)) ?_
    refine ev_eq (ws' := w1 ++ [lw_o ks oq (vp_updL o 0 y.toInt64)]) ?_ (h3 := set_e)
    refine ev_goto 10 17 d_lw_fits_10 ?_
    refine ev_iconst_0 17 d_lw_fits_17 ?_
    exact ev_iret 18 d_lw_fits_18 rfl (Or.inl ⟨y, w1, hq, rfl, rfl⟩)
set_option maxHeartbeats 4000000 in
set_option maxRecDepth 100000 in
theorem hw_instance {l : Launch} {D : va_G} {tl : List (ClassId × FieldType)} {Z : (Nat → Prop) → State → Heap → Prop} {ks : Nat → ClassId} {K : List Nat} {am N : Nat → Nat} {S : gS} {oq : Nat} {o : Nat → Int64} {Q : Option Value → va_W → Prop} {X : String → va_W → Prop} (hZ : ev_Zok Z) (hnc : lw_ZN Z)  (hK : 0 ∈ K) (hM : MX (hc_π l D ks tl Z) (m_hc_instance 21 19 356) 19 356 [.ref (am 0)] (gw K am ks N S) Q X) (hQ : ∀ r w, Q r w → ∃ y, r = some (.int y)) (hX : ∀ E w, X E w → ∃ c, cd_instance E c) : MT (hc_π l D ks tl Z) m_lw_instance 19 356 [.ref (am 0), .ref oq] (gw K am ks N S ++ [lw_o ks oq o]) (fun r w => (∃ y w1, Q (some (.int y)) w1 ∧ r = some (.int 0) ∧ w = w1 ++ [lw_o ks oq (vp_updL o 0 y.toInt64)]) ∨ ∃ E c w1, X E w1 ∧ cd_instance E c ∧ r = some (.int c) ∧ w = w1 ++ [lw_o ks oq o]) := by
  refine mt_ofH (hh := h_instance) (by decide) rfl (Nat.le_of_ble_eq_true rfl) (ev_eq (lv' := [some (.ref (am 0)), some (.ref oq), none]) ?_)
  refine ev_aload_1 0 d_lw_instance_0 ?_
  refine ev_iconst_0 1 d_lw_instance_1 ?_
  refine ev_aload_0 2 d_lw_instance_2 ?_
  refine ev_callVX (ci := 0) 3 (K.idxOf 0) [] [.int 0, .ref oq] d_lw_instance_3 hZ kw_instance ⟨rfl, rfl, ⟨by decide, by decide⟩, by decide, by decide⟩ (at_l (gw_at0 hK)) rfl (mx_frame hZ hM [lw_o ks oq o]) ?_ ?_
  · rintro E' w ⟨w1, rfl, hx⟩
    obtain ⟨c, hc⟩ := hX E' w1 hx
    have hc0 := hc
    obtain ⟨rfl, rfl⟩ := hc
    refine ⟨[], ⟨0, 8, 11, 15⟩, [], rfl, fun z hz => absurd hz List.not_mem_nil, rfl, by decide, lw_cl15, fun q9 => ?_⟩
    refine ev_astore_2 11 d_lw_instance_11 ?_ (hn := by exact Nat.le_of_ble_eq_true rfl)
    refine ev_iconst_1 12 d_lw_instance_12 ?_
    exact ev_iret 13 d_lw_instance_13 rfl (Or.inr ⟨_, _, w1, hx, hc0, rfl, rfl⟩)
  · rintro r w ⟨w1, rfl, hq⟩
    obtain ⟨y, rfl⟩ := hQ r w1 hq
    refine ev_eq (st' := [.int y, .int 0, .ref oq]) ?_
    refine ev_i2l 6 d_lw_instance_6 ?_
    refine ev_last 7 w1.length 2 d_lw_instance_7 at_e rfl (show vp_in (nI 0) 1 from vp_in_nI (by decide) (by decide)) ?_
    refine ev_eq (ws' := w1 ++ [lw_o ks oq (vp_updL o 0 y.toInt64)]) ?_ (h3 := set_e)
    refine ev_goto 8 14 d_lw_instance_8 ?_
    refine ev_iconst_0 14 d_lw_instance_14 ?_
    exact ev_iret 15 d_lw_instance_15 rfl (Or.inl ⟨y, w1, hq, rfl, rfl⟩)
set_option maxHeartbeats 4000000 in
set_option maxRecDepth 100000 in
theorem hw_function {l : Launch} {D : va_G} {tl : List (ClassId × FieldType)} {Z : (Nat → Prop) → State → Heap → Prop} {ks : Nat → ClassId} {K : List Nat} {am N : Nat → Nat} {S : gS} {oq : Nat} {o : Nat → Int64} {Q : Option Value → va_W → Prop} {X : String → va_W → Prop} (hZ : ev_Zok Z) (hnc : lw_ZN Z) (p0 : Int32) (p1 : Int32) (p2 : Int32) (hK : 0 ∈ K) (hM : MX (hc_π l D ks tl Z) (m_hc_function 21 1 6) 1 6 [.ref (am 0), .int p0, .int p1, .int p2] (gw K am ks N S) Q X) (hQ : ∀ r w, Q r w → ∃ y, r = some (.int y)) (hX : ∀ E w, X E w → ∃ c, cd_function E c) : MT (hc_π l D ks tl Z) m_lw_function 1 6 [.ref (am 0), .int p0, .int p1, .int p2, .ref oq] (gw K am ks N S ++ [lw_o ks oq o]) (fun r w => (∃ y w1, Q (some (.int y)) w1 ∧ r = some (.int 0) ∧ w = w1 ++ [lw_o ks oq (vp_updL o 0 y.toInt64)]) ∨ ∃ E c w1, X E w1 ∧ cd_function E c ∧ r = some (.int c) ∧ w = w1 ++ [lw_o ks oq o]) := by
  refine mt_ofH (hh := h_function) (by decide) rfl (Nat.le_of_ble_eq_true rfl) (ev_eq (lv' := [some (.ref (am 0)), some (.int p0), some (.int p1), some (.int p2), some (.ref oq), none]) ?_)
  refine ev_aload_4 0 d_lw_function_0 ?_
  refine ev_iconst_0 2 d_lw_function_2 ?_
  refine ev_aload_0 3 d_lw_function_3 ?_
  refine ev_iload_1 4 d_lw_function_4 ?_
  refine ev_iload_2 5 d_lw_function_5 ?_
  refine ev_iload_3 6 d_lw_function_6 ?_
  refine ev_callVX (ci := 0) 7 (K.idxOf 0) [.int p0, .int p1, .int p2] [.int 0, .ref oq] d_lw_function_7 hZ kw_function ⟨rfl, rfl, ⟨by decide, by decide⟩, by decide, by decide⟩ (at_l (gw_at0 hK)) rfl (mx_frame hZ hM [lw_o ks oq o]) ?_ ?_
  · rintro E' w ⟨w1, rfl, hx⟩
    obtain ⟨c, hc⟩ := hX E' w1 hx
    have hc0 := hc
    rcases hc with ⟨rfl, rfl⟩ | ⟨rfl, rfl⟩ | ⟨rfl, rfl⟩
    · refine ⟨[], ⟨0, 12, 15, 13⟩, [⟨0, 12, 19, 37⟩, ⟨0, 12, 23, 15⟩], rfl, fun z hz => absurd hz List.not_mem_nil, rfl, by decide, lw_cl13, fun q9 => ?_⟩
      refine ev_astore_5 15 d_lw_function_15 ?_ (hn := by exact Nat.le_of_ble_eq_true rfl)
      refine ev_iconst_1 17 d_lw_function_17 ?_
      exact ev_iret 18 d_lw_function_18 rfl (Or.inr ⟨_, _, w1, hx, hc0, rfl, rfl⟩)
    · refine ⟨[⟨0, 12, 15, 13⟩], ⟨0, 12, 19, 37⟩, [⟨0, 12, 23, 15⟩], rfl, ?_, rfl, by decide, lw_cl37, fun q9 => ?_⟩
      · intro z hz
        simp only [List.mem_cons, List.not_mem_nil, or_false] at hz
        subst hz
        exact Or.inr ⟨by decide, _, lw_cl13, fun A s hz9 => hnc A s hz9 ("java/lang/UnsupportedOperationException", "java/lang/IllegalArgumentException") (by decide)⟩
      · refine ev_astore_5 19 d_lw_function_19 ?_ (hn := by exact Nat.le_of_ble_eq_true rfl)
        refine ev_iconst_2 21 d_lw_function_21 ?_
        exact ev_iret 22 d_lw_function_22 rfl (Or.inr ⟨_, _, w1, hx, hc0, rfl, rfl⟩)
    · refine ⟨[⟨0, 12, 15, 13⟩, ⟨0, 12, 19, 37⟩], ⟨0, 12, 23, 15⟩, [], rfl, ?_, rfl, by decide, lw_cl15, fun q9 => ?_⟩
      · intro z hz
        simp only [List.mem_cons, List.not_mem_nil, or_false] at hz
        rcases hz with rfl | rfl
        · exact Or.inr ⟨by decide, _, lw_cl13, fun A s hz9 => hnc A s hz9 ("java/lang/IllegalStateException", "java/lang/IllegalArgumentException") (by decide)⟩
        · exact Or.inr ⟨by decide, _, lw_cl37, fun A s hz9 => hnc A s hz9 ("java/lang/IllegalStateException", "java/lang/UnsupportedOperationException") (by decide)⟩
      · refine ev_astore_5 23 d_lw_function_23 ?_ (hn := by exact Nat.le_of_ble_eq_true rfl)
        refine ev_iconst_3 25 d_lw_function_25 ?_
        exact ev_iret 26 d_lw_function_26 rfl (Or.inr ⟨_, _, w1, hx, hc0, rfl, rfl⟩)
  · rintro r w ⟨w1, rfl, hq⟩
    obtain ⟨y, rfl⟩ := hQ r w1 hq
    refine ev_eq (st' := [.int y, .int 0, .ref oq]) ?_
    refine ev_i2l 10 d_lw_function_10 ?_
    refine ev_last 11 w1.length 2 d_lw_function_11 at_e rfl (show vp_in (nI 0) 1 from vp_in_nI (by decide) (by decide)) ?_
    refine ev_eq (ws' := w1 ++ [lw_o ks oq (vp_updL o 0 y.toInt64)]) ?_ (h3 := set_e)
    refine ev_goto 12 27 d_lw_function_12 ?_
    refine ev_iconst_0 27 d_lw_function_27 ?_
    exact ev_iret 28 d_lw_function_28 rfl (Or.inl ⟨y, w1, hq, rfl, rfl⟩)
set_option maxHeartbeats 4000000 in
set_option maxRecDepth 100000 in
theorem hw_write {l : Launch} {D : va_G} {tl : List (ClassId × FieldType)} {Z : (Nat → Prop) → State → Heap → Prop} {ks : Nat → ClassId} {K : List Nat} {am N : Nat → Nat} {S : gS} {Q : Option Value → va_W → Prop} {X : String → va_W → Prop} (hZ : ev_Zok Z) (hnc : lw_ZN Z) (p0 : Int32) (p1 : Int32) (p2 : Int32) (p3 : Int64) (hK : 0 ∈ K) (hM : MX (hc_π l D ks tl Z) (m_hc_write 21 1 6) 1 6 [.ref (am 0), .int p0, .int p1, .int p2, .long p3] (gw K am ks N S) Q X) (hQ : ∀ r w, Q r w → r = none) (hX : ∀ E w, X E w → ∃ c, cd_write E c) : MT (hc_π l D ks tl Z) m_lw_write 1 6 [.ref (am 0), .int p0, .int p1, .int p2, .long p3] (gw K am ks N S) (fun r w => (Q none w ∧ r = some (.int 0)) ∨ ∃ E c, X E w ∧ cd_write E c ∧ r = some (.int c)) := by
  refine mt_ofH (hh := h_write) (by decide) rfl (Nat.le_of_ble_eq_true rfl) (ev_eq (lv' := [some (.ref (am 0)), some (.int p0), some (.int p1), some (.int p2), some (.long p3), none, none]) ?_)
  refine ev_aload_0 0 d_lw_write_0 ?_
  refine ev_iload_1 1 d_lw_write_1 ?_
  refine ev_iload_2 2 d_lw_write_2 ?_
  refine ev_iload_3 3 d_lw_write_3 ?_
  refine ev_lload_4 4 d_lw_write_4 ?_
  refine ev_callVX (ci := 0) 6 (K.idxOf 0) [.int p0, .int p1, .int p2, .long p3] [] d_lw_write_6 hZ kw_write ⟨rfl, rfl, ⟨by decide, by decide⟩, by decide, by decide⟩ (gw_at0 hK) rfl hM ?_ ?_
  · intro E' w hx
    obtain ⟨c, hc⟩ := hX E' w hx
    have hc0 := hc
    rcases hc with ⟨rfl, rfl⟩ | ⟨rfl, rfl⟩
    · refine ⟨[], ⟨0, 9, 12, 13⟩, [⟨0, 9, 16, 24⟩], rfl, fun z hz => absurd hz List.not_mem_nil, rfl, by decide, lw_cl13, fun q9 => ?_⟩
      refine ev_astore_6 12 d_lw_write_12 ?_ (hn := by exact Nat.le_of_ble_eq_true rfl)
      refine ev_iconst_1 14 d_lw_write_14 ?_
      exact ev_iret 15 d_lw_write_15 rfl (Or.inr ⟨_, _, hx, hc0, rfl⟩)
    · refine ⟨[⟨0, 9, 12, 13⟩], ⟨0, 9, 16, 24⟩, [], rfl, ?_, rfl, by decide, lw_cl24, fun q9 => ?_⟩
      · intro z hz
        simp only [List.mem_cons, List.not_mem_nil, or_false] at hz
        subst hz
        exact Or.inr ⟨by decide, _, lw_cl13, fun A s hz9 => hnc A s hz9 ("java/lang/IndexOutOfBoundsException", "java/lang/IllegalArgumentException") (by decide)⟩
      · refine ev_astore_6 16 d_lw_write_16 ?_ (hn := by exact Nat.le_of_ble_eq_true rfl)
        refine ev_iconst_2 18 d_lw_write_18 ?_
        exact ev_iret 19 d_lw_write_19 rfl (Or.inr ⟨_, _, hx, hc0, rfl⟩)
  · intro r w hq
    obtain rfl := hQ r w hq
    refine ev_eq (st' := []) ?_
    refine ev_goto 9 20 d_lw_write_9 ?_
    refine ev_iconst_0 20 d_lw_write_20 ?_
    exact ev_iret 21 d_lw_write_21 rfl (Or.inl ⟨hq, rfl⟩)
set_option maxHeartbeats 4000000 in
set_option maxRecDepth 100000 in
theorem hw_read {l : Launch} {D : va_G} {tl : List (ClassId × FieldType)} {Z : (Nat → Prop) → State → Heap → Prop} {ks : Nat → ClassId} {K : List Nat} {am N : Nat → Nat} {S : gS} {oq : Nat} {o : Nat → Int64} {Q : Option Value → va_W → Prop} {X : String → va_W → Prop} (hZ : ev_Zok Z) (hnc : lw_ZN Z) (p0 : Int32) (p1 : Int32) (hK : 0 ∈ K) (hM : MX (hc_π l D ks tl Z) (m_hc_read 21 1 6) 1 6 [.ref (am 0), .int p0, .int p1] (gw K am ks N S) Q X) (hQ : ∀ r w, Q r w → ∃ y, r = some (.int y)) (hX : ∀ E w, X E w → ∃ c, cd_read E c) : MT (hc_π l D ks tl Z) m_lw_read 1 6 [.ref (am 0), .int p0, .int p1, .ref oq] (gw K am ks N S ++ [lw_o ks oq o]) (fun r w => (∃ y w1, Q (some (.int y)) w1 ∧ r = some (.int 0) ∧ w = w1 ++ [lw_o ks oq (vp_updL o 0 y.toInt64)]) ∨ ∃ E c w1, X E w1 ∧ cd_read E c ∧ r = some (.int c) ∧ w = w1 ++ [lw_o ks oq o]) := by
  refine mt_ofH (hh := h_read) (by decide) rfl (Nat.le_of_ble_eq_true rfl) (ev_eq (lv' := [some (.ref (am 0)), some (.int p0), some (.int p1), some (.ref oq), none]) ?_)
  refine ev_aload_3 0 d_lw_read_0 ?_
  refine ev_iconst_0 1 d_lw_read_1 ?_
  refine ev_aload_0 2 d_lw_read_2 ?_
  refine ev_iload_1 3 d_lw_read_3 ?_
  refine ev_iload_2 4 d_lw_read_4 ?_
  refine ev_callVX (ci := 0) 5 (K.idxOf 0) [.int p0, .int p1] [.int 0, .ref oq] d_lw_read_5 hZ kw_read ⟨rfl, rfl, ⟨by decide, by decide⟩, by decide, by decide⟩ (at_l (gw_at0 hK)) rfl (mx_frame hZ hM [lw_o ks oq o]) ?_ ?_
  · rintro E' w ⟨w1, rfl, hx⟩
    obtain ⟨c, hc⟩ := hX E' w1 hx
    have hc0 := hc
    rcases hc with ⟨rfl, rfl⟩ | ⟨rfl, rfl⟩
    · refine ⟨[], ⟨0, 10, 13, 13⟩, [⟨0, 10, 17, 24⟩], rfl, fun z hz => absurd hz List.not_mem_nil, rfl, by decide, lw_cl13, fun q9 => ?_⟩
      refine ev_astore_4 13 d_lw_read_13 ?_ (hn := by exact Nat.le_of_ble_eq_true rfl)
      refine ev_iconst_1 15 d_lw_read_15 ?_
      exact ev_iret 16 d_lw_read_16 rfl (Or.inr ⟨_, _, w1, hx, hc0, rfl, rfl⟩)
    · refine ⟨[⟨0, 10, 13, 13⟩], ⟨0, 10, 17, 24⟩, [], rfl, ?_, rfl, by decide, lw_cl24, fun q9 => ?_⟩
      · intro z hz
        simp only [List.mem_cons, List.not_mem_nil, or_false] at hz
        subst hz
        exact Or.inr ⟨by decide, _, lw_cl13, fun A s hz9 => hnc A s hz9 ("java/lang/IndexOutOfBoundsException", "java/lang/IllegalArgumentException") (by decide)⟩
      · refine ev_astore_4 17 d_lw_read_17 ?_ (hn := by exact Nat.le_of_ble_eq_true rfl)
        refine ev_iconst_2 19 d_lw_read_19 ?_
        exact ev_iret 20 d_lw_read_20 rfl (Or.inr ⟨_, _, w1, hx, hc0, rfl, rfl⟩)
  · rintro r w ⟨w1, rfl, hq⟩
    obtain ⟨y, rfl⟩ := hQ r w1 hq
    refine ev_eq (st' := [.int y, .int 0, .ref oq]) ?_
    refine ev_i2l 8 d_lw_read_8 ?_
    refine ev_last 9 w1.length 2 d_lw_read_9 at_e rfl (show vp_in (nI 0) 1 from vp_in_nI (by decide) (by decide)) ?_
    refine ev_eq (ws' := w1 ++ [lw_o ks oq (vp_updL o 0 y.toInt64)]) ?_ (h3 := set_e)
    refine ev_goto 10 21 d_lw_read_10 ?_
    refine ev_iconst_0 21 d_lw_read_21 ?_
    exact ev_iret 22 d_lw_read_22 rfl (Or.inl ⟨y, w1, hq, rfl, rfl⟩)
set_option maxHeartbeats 4000000 in
set_option maxRecDepth 100000 in
theorem hw_enter {l : Launch} {D : va_G} {tl : List (ClassId × FieldType)} {Z : (Nat → Prop) → State → Heap → Prop} {ks : Nat → ClassId} {K : List Nat} {am N : Nat → Nat} {S : gS} {Q : Option Value → va_W → Prop} {X : String → va_W → Prop} (hZ : ev_Zok Z) (hnc : lw_ZN Z) (p0 : Int32) (hK : 0 ∈ K) (hM : MX (hc_π l D ks tl Z) (m_hc_enter 21 1 6) 1 6 [.ref (am 0), .int p0] (gw K am ks N S) Q X) (hQ : ∀ r w, Q r w → r = none) (hX : ∀ E w, X E w → ∃ c, cd_enter E c) : MT (hc_π l D ks tl Z) m_lw_enter 1 6 [.ref (am 0), .int p0] (gw K am ks N S) (fun r w => (Q none w ∧ r = some (.int 0)) ∨ ∃ E c, X E w ∧ cd_enter E c ∧ r = some (.int c)) := by
  refine mt_ofH (hh := h_enter) (by decide) rfl (Nat.le_of_ble_eq_true rfl) (ev_eq (lv' := [some (.ref (am 0)), some (.int p0), none]) ?_)
  refine ev_aload_0 0 d_lw_enter_0 ?_
  refine ev_iload_1 1 d_lw_enter_1 ?_
  refine ev_callVX (ci := 0) 2 (K.idxOf 0) [.int p0] [] d_lw_enter_2 hZ kw_enter ⟨rfl, rfl, ⟨by decide, by decide⟩, by decide, by decide⟩ (gw_at0 hK) rfl hM ?_ ?_
  · intro E' w hx
    obtain ⟨c, hc⟩ := hX E' w hx
    have hc0 := hc
    rcases hc with ⟨rfl, rfl⟩ | ⟨rfl, rfl⟩
    · refine ⟨[], ⟨0, 5, 8, 13⟩, [⟨0, 5, 11, 15⟩], rfl, fun z hz => absurd hz List.not_mem_nil, rfl, by decide, lw_cl13, fun q9 => ?_⟩
      refine ev_astore_2 8 d_lw_enter_8 ?_ (hn := by exact Nat.le_of_ble_eq_true rfl)
      refine ev_iconst_1 9 d_lw_enter_9 ?_
      exact ev_iret 10 d_lw_enter_10 rfl (Or.inr ⟨_, _, hx, hc0, rfl⟩)
    · refine ⟨[⟨0, 5, 8, 13⟩], ⟨0, 5, 11, 15⟩, [], rfl, ?_, rfl, by decide, lw_cl15, fun q9 => ?_⟩
      · intro z hz
        simp only [List.mem_cons, List.not_mem_nil, or_false] at hz
        subst hz
        exact Or.inr ⟨by decide, _, lw_cl13, fun A s hz9 => hnc A s hz9 ("java/lang/IllegalStateException", "java/lang/IllegalArgumentException") (by decide)⟩
      · refine ev_astore_2 11 d_lw_enter_11 ?_ (hn := by exact Nat.le_of_ble_eq_true rfl)
        refine ev_iconst_2 12 d_lw_enter_12 ?_
        exact ev_iret 13 d_lw_enter_13 rfl (Or.inr ⟨_, _, hx, hc0, rfl⟩)
  · intro r w hq
    obtain rfl := hQ r w hq
    refine ev_eq (st' := []) ?_
    refine ev_goto 5 14 d_lw_enter_5 ?_
    refine ev_iconst_0 14 d_lw_enter_14 ?_
    exact ev_iret 15 d_lw_enter_15 rfl (Or.inl ⟨hq, rfl⟩)
set_option maxHeartbeats 4000000 in
set_option maxRecDepth 100000 in
theorem hw_leave {l : Launch} {D : va_G} {tl : List (ClassId × FieldType)} {Z : (Nat → Prop) → State → Heap → Prop} {ks : Nat → ClassId} {K : List Nat} {am N : Nat → Nat} {S : gS} {Q : Option Value → va_W → Prop} {X : String → va_W → Prop} (hZ : ev_Zok Z) (hnc : lw_ZN Z)  (hK : 0 ∈ K) (hM : MX (hc_π l D ks tl Z) (m_hc_leave 21 1 6) 1 6 [.ref (am 0)] (gw K am ks N S) Q X) (hQ : ∀ r w, Q r w → r = none) (hX : ∀ E w, X E w → ∃ c, cd_leave E c) : MT (hc_π l D ks tl Z) m_lw_leave 1 6 [.ref (am 0)] (gw K am ks N S) (fun r w => (Q none w ∧ r = some (.int 0)) ∨ ∃ E c, X E w ∧ cd_leave E c ∧ r = some (.int c)) := by
  refine mt_ofH (hh := h_leave) (by decide) rfl (Nat.le_of_ble_eq_true rfl) (ev_eq (lv' := [some (.ref (am 0)), none]) ?_)
  refine ev_aload_0 0 d_lw_leave_0 ?_
  refine ev_callVX (ci := 0) 1 (K.idxOf 0) [] [] d_lw_leave_1 hZ kw_leave ⟨rfl, rfl, ⟨by decide, by decide⟩, by decide, by decide⟩ (gw_at0 hK) rfl hM ?_ ?_
  · intro E' w hx
    obtain ⟨c, hc⟩ := hX E' w hx
    have hc0 := hc
    obtain ⟨rfl, rfl⟩ := hc
    refine ⟨[], ⟨0, 4, 7, 15⟩, [], rfl, fun z hz => absurd hz List.not_mem_nil, rfl, by decide, lw_cl15, fun q9 => ?_⟩
    refine ev_astore_1 7 d_lw_leave_7 ?_ (hn := by exact Nat.le_of_ble_eq_true rfl)
    refine ev_iconst_1 8 d_lw_leave_8 ?_
    exact ev_iret 9 d_lw_leave_9 rfl (Or.inr ⟨_, _, hx, hc0, rfl⟩)
  · intro r w hq
    obtain rfl := hQ r w hq
    refine ev_eq (st' := []) ?_
    refine ev_goto 4 10 d_lw_leave_4 ?_
    refine ev_iconst_0 10 d_lw_leave_10 ?_
    exact ev_iret 11 d_lw_leave_11 rfl (Or.inl ⟨hq, rfl⟩)
set_option maxHeartbeats 4000000 in
set_option maxRecDepth 100000 in
theorem hw_make {l : Launch} {D : va_G} {tl : List (ClassId × FieldType)} {Z : (Nat → Prop) → State → Heap → Prop} {ks : Nat → ClassId} {K : List Nat} {am N : Nat → Nat} {S : gS} {oq : Nat} {o : Nat → Int64} {Q : Option Value → va_W → Prop} {X : String → va_W → Prop} (hZ : ev_Zok Z) (hnc : lw_ZN Z) (p0 : Int32) (hK : 0 ∈ K) (hM : MX (hc_π l D ks tl Z) (m_hc_make 21 1 6) 1 6 [.ref (am 0), .int p0] (gw K am ks N S) Q X) (hQ : ∀ r w, Q r w → ∃ y, r = some (.int y)) (hX : ∀ E w, X E w → ∃ c, cd_make E c) : MT (hc_π l D ks tl Z) m_lw_make 1 6 [.ref (am 0), .int p0, .ref oq] (gw K am ks N S ++ [lw_o ks oq o]) (fun r w => (∃ y w1, Q (some (.int y)) w1 ∧ r = some (.int 0) ∧ w = w1 ++ [lw_o ks oq (vp_updL o 0 y.toInt64)]) ∨ ∃ E c w1, X E w1 ∧ cd_make E c ∧ r = some (.int c) ∧ w = w1 ++ [lw_o ks oq o]) := by
  refine mt_ofH (hh := h_make) (by decide) rfl (Nat.le_of_ble_eq_true rfl) (ev_eq (lv' := [some (.ref (am 0)), some (.int p0), some (.ref oq), none]) ?_)
  refine ev_aload_2 0 d_lw_make_0 ?_
  refine ev_iconst_0 1 d_lw_make_1 ?_
  refine ev_aload_0 2 d_lw_make_2 ?_
  refine ev_iload_1 3 d_lw_make_3 ?_
  refine ev_callVX (ci := 0) 4 (K.idxOf 0) [.int p0] [.int 0, .ref oq] d_lw_make_4 hZ kw_make ⟨rfl, rfl, ⟨by decide, by decide⟩, by decide, by decide⟩ (at_l (gw_at0 hK)) rfl (mx_frame hZ hM [lw_o ks oq o]) ?_ ?_
  · rintro E' w ⟨w1, rfl, hx⟩
    obtain ⟨c, hc⟩ := hX E' w1 hx
    have hc0 := hc
    rcases hc with ⟨rfl, rfl⟩ | ⟨rfl, rfl⟩ | ⟨rfl, rfl⟩
    · refine ⟨[], ⟨0, 9, 12, 15⟩, [⟨0, 9, 15, 13⟩, ⟨0, 9, 18, 37⟩], rfl, fun z hz => absurd hz List.not_mem_nil, rfl, by decide, lw_cl15, fun q9 => ?_⟩
      refine ev_astore_3 12 d_lw_make_12 ?_ (hn := by exact Nat.le_of_ble_eq_true rfl)
      refine ev_iconst_1 13 d_lw_make_13 ?_
      exact ev_iret 14 d_lw_make_14 rfl (Or.inr ⟨_, _, w1, hx, hc0, rfl, rfl⟩)
    · refine ⟨[⟨0, 9, 12, 15⟩], ⟨0, 9, 15, 13⟩, [⟨0, 9, 18, 37⟩], rfl, ?_, rfl, by decide, lw_cl13, fun q9 => ?_⟩
      · intro z hz
        simp only [List.mem_cons, List.not_mem_nil, or_false] at hz
        subst hz
        exact Or.inr ⟨by decide, _, lw_cl15, fun A s hz9 => hnc A s hz9 ("java/lang/IllegalArgumentException", "java/lang/IllegalStateException") (by decide)⟩
      · refine ev_astore_3 15 d_lw_make_15 ?_ (hn := by exact Nat.le_of_ble_eq_true rfl)
        refine ev_iconst_2 16 d_lw_make_16 ?_
        exact ev_iret 17 d_lw_make_17 rfl (Or.inr ⟨_, _, w1, hx, hc0, rfl, rfl⟩)
    · refine ⟨[⟨0, 9, 12, 15⟩, ⟨0, 9, 15, 13⟩], ⟨0, 9, 18, 37⟩, [], rfl, ?_, rfl, by decide, lw_cl37, fun q9 => ?_⟩
      · intro z hz
        simp only [List.mem_cons, List.not_mem_nil, or_false] at hz
        rcases hz with rfl | rfl
        · exact Or.inr ⟨by decide, _, lw_cl15, fun A s hz9 => hnc A s hz9 ("java/lang/UnsupportedOperationException", "java/lang/IllegalStateException") (by decide)⟩
        · exact Or.inr ⟨by decide, _, lw_cl13, fun A s hz9 => hnc A s hz9 ("java/lang/UnsupportedOperationException", "java/lang/IllegalArgumentException") (by decide)⟩
      · refine ev_astore_3 18 d_lw_make_18 ?_ (hn := by exact Nat.le_of_ble_eq_true rfl)
        refine ev_iconst_3 19 d_lw_make_19 ?_
        exact ev_iret 20 d_lw_make_20 rfl (Or.inr ⟨_, _, w1, hx, hc0, rfl, rfl⟩)
  · rintro r w ⟨w1, rfl, hq⟩
    obtain ⟨y, rfl⟩ := hQ r w1 hq
    refine ev_eq (st' := [.int y, .int 0, .ref oq]) ?_
    refine ev_i2l 7 d_lw_make_7 ?_
    refine ev_last 8 w1.length 2 d_lw_make_8 at_e rfl (show vp_in (nI 0) 1 from vp_in_nI (by decide) (by decide)) ?_
    refine ev_eq (ws' := w1 ++ [lw_o ks oq (vp_updL o 0 y.toInt64)]) ?_ (h3 := set_e)
    refine ev_goto 9 21 d_lw_make_9 ?_
    refine ev_iconst_0 21 d_lw_make_21 ?_
    exact ev_iret 22 d_lw_make_22 rfl (Or.inl ⟨y, w1, hq, rfl, rfl⟩)
set_option maxHeartbeats 4000000 in
set_option maxRecDepth 100000 in
theorem hw_drop {l : Launch} {D : va_G} {tl : List (ClassId × FieldType)} {Z : (Nat → Prop) → State → Heap → Prop} {ks : Nat → ClassId} {K : List Nat} {am N : Nat → Nat} {S : gS} {oq : Nat} {o : Nat → Int64} {Q : Option Value → va_W → Prop} {X : String → va_W → Prop} (hZ : ev_Zok Z) (hnc : lw_ZN Z) (p0 : Int32) (hK : 0 ∈ K) (hM : MX (hc_π l D ks tl Z) (m_hc_drop 21 1 6) 1 6 [.ref (am 0), .int p0] (gw K am ks N S) Q X) (hQ : ∀ r w, Q r w → ∃ y, r = some (.int y)) (hX : ∀ E w, X E w → ∃ c, cd_drop E c) : MT (hc_π l D ks tl Z) m_lw_drop 1 6 [.ref (am 0), .int p0, .ref oq] (gw K am ks N S ++ [lw_o ks oq o]) (fun r w => (∃ y w1, Q (some (.int y)) w1 ∧ r = some (.int 0) ∧ w = w1 ++ [lw_o ks oq (vp_updL o 0 (if y = 0 then 0 else 1))]) ∨ ∃ E c w1, X E w1 ∧ cd_drop E c ∧ r = some (.int c) ∧ w = w1 ++ [lw_o ks oq o]) := by
  refine mt_ofH (hh := h_drop) (by decide) rfl (Nat.le_of_ble_eq_true rfl) (ev_eq (lv' := [some (.ref (am 0)), some (.int p0), some (.ref oq), none]) ?_)
  refine ev_aload_2 0 d_lw_drop_0 ?_
  refine ev_iconst_0 1 d_lw_drop_1 ?_
  refine ev_aload_0 2 d_lw_drop_2 ?_
  refine ev_iload_1 3 d_lw_drop_3 ?_
  refine ev_callVX (ci := 0) 4 (K.idxOf 0) [.int p0] [.int 0, .ref oq] d_lw_drop_4 hZ kw_drop ⟨rfl, rfl, ⟨by decide, by decide⟩, by decide, by decide⟩ (at_l (gw_at0 hK)) rfl (mx_frame hZ hM [lw_o ks oq o]) ?_ ?_
  · rintro E' w ⟨w1, rfl, hx⟩
    obtain ⟨c, hc⟩ := hX E' w1 hx
    have hc0 := hc
    rcases hc with ⟨rfl, rfl⟩ | ⟨rfl, rfl⟩ | ⟨rfl, rfl⟩
    · refine ⟨[], ⟨0, 16, 19, 15⟩, [⟨0, 16, 22, 60⟩, ⟨0, 16, 25, 37⟩], rfl, fun z hz => absurd hz List.not_mem_nil, rfl, by decide, lw_cl15, fun q9 => ?_⟩
      refine ev_astore_3 19 d_lw_drop_19 ?_ (hn := by exact Nat.le_of_ble_eq_true rfl)
      refine ev_iconst_1 20 d_lw_drop_20 ?_
      exact ev_iret 21 d_lw_drop_21 rfl (Or.inr ⟨_, _, w1, hx, hc0, rfl, rfl⟩)
    · refine ⟨[⟨0, 16, 19, 15⟩], ⟨0, 16, 22, 60⟩, [⟨0, 16, 25, 37⟩], rfl, ?_, rfl, by decide, lw_cl60, fun q9 => ?_⟩
      · intro z hz
        simp only [List.mem_cons, List.not_mem_nil, or_false] at hz
        subst hz
        exact Or.inr ⟨by decide, _, lw_cl15, fun A s hz9 => hnc A s hz9 ("java/util/NoSuchElementException", "java/lang/IllegalStateException") (by decide)⟩
      · refine ev_astore_3 22 d_lw_drop_22 ?_ (hn := by exact Nat.le_of_ble_eq_true rfl)
        refine ev_iconst_2 23 d_lw_drop_23 ?_
        exact ev_iret 24 d_lw_drop_24 rfl (Or.inr ⟨_, _, w1, hx, hc0, rfl, rfl⟩)
    · refine ⟨[⟨0, 16, 19, 15⟩, ⟨0, 16, 22, 60⟩], ⟨0, 16, 25, 37⟩, [], rfl, ?_, rfl, by decide, lw_cl37, fun q9 => ?_⟩
      · intro z hz
        simp only [List.mem_cons, List.not_mem_nil, or_false] at hz
        rcases hz with rfl | rfl
        · exact Or.inr ⟨by decide, _, lw_cl15, fun A s hz9 => hnc A s hz9 ("java/lang/UnsupportedOperationException", "java/lang/IllegalStateException") (by decide)⟩
        · exact Or.inr ⟨by decide, _, lw_cl60, fun A s hz9 => hnc A s hz9 ("java/lang/UnsupportedOperationException", "java/util/NoSuchElementException") (by decide)⟩
      · refine ev_astore_3 25 d_lw_drop_25 ?_ (hn := by exact Nat.le_of_ble_eq_true rfl)
        refine ev_iconst_3 26 d_lw_drop_26 ?_
        exact ev_iret 27 d_lw_drop_27 rfl (Or.inr ⟨_, _, w1, hx, hc0, rfl, rfl⟩)
  · rintro r w ⟨w1, rfl, hq⟩
    obtain ⟨y, rfl⟩ := hQ r w1 hq
    refine ev_eq (st' := [.int y, .int 0, .ref oq]) ?_
    refine ev_ifeq 7 14 d_lw_drop_7 (fun c0 => ?_) (fun c0 => ?_)
    · refine ev_lconst_0 14 d_lw_drop_14 ?_
      refine ev_last 15 w1.length 2 d_lw_drop_15 at_e rfl (show vp_in (nI 0) 1 from vp_in_nI (by decide) (by decide)) ?_
      refine ev_eq (ws' := w1 ++ [lw_o ks oq (vp_updL o 0 0)]) ?_ (h3 := set_e)
      refine ev_goto 16 28 d_lw_drop_16 ?_
      refine ev_iconst_0 28 d_lw_drop_28 ?_
      exact ev_iret 29 d_lw_drop_29 rfl (Or.inl ⟨y, w1, hq, rfl, by rw [if_pos c0]⟩)
    · refine ev_lconst_1 10 d_lw_drop_10 ?_
      refine ev_goto 11 15 d_lw_drop_11 ?_
      refine ev_last 15 w1.length 2 d_lw_drop_15 at_e rfl (show vp_in (nI 0) 1 from vp_in_nI (by decide) (by decide)) ?_
      refine ev_eq (ws' := w1 ++ [lw_o ks oq (vp_updL o 0 1)]) ?_ (h3 := set_e)
      refine ev_goto 16 28 d_lw_drop_16 ?_
      refine ev_iconst_0 28 d_lw_drop_28 ?_
      exact ev_iret 29 d_lw_drop_29 rfl (Or.inl ⟨y, w1, hq, rfl, by rw [if_neg c0]⟩)
set_option maxHeartbeats 4000000 in
set_option maxRecDepth 100000 in
theorem hw_handle {l : Launch} {D : va_G} {tl : List (ClassId × FieldType)} {Z : (Nat → Prop) → State → Heap → Prop} {ks : Nat → ClassId} {K : List Nat} {am N : Nat → Nat} {S : gS} {oq : Nat} {o : Nat → Int64} {Q : Option Value → va_W → Prop} {X : String → va_W → Prop} (hZ : ev_Zok Z) (hnc : lw_ZN Z) (p0 : Int32) (p1 : Int32) (p2 : Int32) (hK : 0 ∈ K) (hM : MX (hc_π l D ks tl Z) (m_hc_handle 21 1 6) 1 6 [.ref (am 0), .int p0, .int p1, .int p2] (gw K am ks N S) Q X) (hQ : ∀ r w, Q r w → ∃ y, r = some (.int y)) (hX : ∀ E w, X E w → ∃ c, cd_handle E c) : MT (hc_π l D ks tl Z) m_lw_handle 1 6 [.ref (am 0), .int p0, .int p1, .int p2, .ref oq] (gw K am ks N S ++ [lw_o ks oq o]) (fun r w => (∃ y w1, Q (some (.int y)) w1 ∧ r = some (.int 0) ∧ w = w1 ++ [lw_o ks oq (vp_updL o 0 y.toInt64)]) ∨ ∃ E c w1, X E w1 ∧ cd_handle E c ∧ r = some (.int c) ∧ w = w1 ++ [lw_o ks oq o]) := by
  refine mt_ofH (hh := h_handle) (by decide) rfl (Nat.le_of_ble_eq_true rfl) (ev_eq (lv' := [some (.ref (am 0)), some (.int p0), some (.int p1), some (.int p2), some (.ref oq), none]) ?_)
  refine ev_aload_4 0 d_lw_handle_0 ?_
  refine ev_iconst_0 2 d_lw_handle_2 ?_
  refine ev_aload_0 3 d_lw_handle_3 ?_
  refine ev_iload_1 4 d_lw_handle_4 ?_
  refine ev_iload_2 5 d_lw_handle_5 ?_
  refine ev_iload_3 6 d_lw_handle_6 ?_
  refine ev_callVX (ci := 0) 7 (K.idxOf 0) [.int p0, .int p1, .int p2] [.int 0, .ref oq] d_lw_handle_7 hZ kw_handle ⟨rfl, rfl, ⟨by decide, by decide⟩, by decide, by decide⟩ (at_l (gw_at0 hK)) rfl (mx_frame hZ hM [lw_o ks oq o]) ?_ ?_
  · rintro E' w ⟨w1, rfl, hx⟩
    obtain ⟨c, hc⟩ := hX E' w1 hx
    have hc0 := hc
    obtain ⟨rfl, rfl⟩ := hc
    refine ⟨[], ⟨0, 12, 15, 13⟩, [], rfl, fun z hz => absurd hz List.not_mem_nil, rfl, by decide, lw_cl13, fun q9 => ?_⟩
    refine ev_astore_5 15 d_lw_handle_15 ?_ (hn := by exact Nat.le_of_ble_eq_true rfl)
    refine ev_iconst_1 17 d_lw_handle_17 ?_
    exact ev_iret 18 d_lw_handle_18 rfl (Or.inr ⟨_, _, w1, hx, hc0, rfl, rfl⟩)
  · rintro r w ⟨w1, rfl, hq⟩
    obtain ⟨y, rfl⟩ := hQ r w1 hq
    refine ev_eq (st' := [.int y, .int 0, .ref oq]) ?_
    refine ev_i2l 10 d_lw_handle_10 ?_
    refine ev_last 11 w1.length 2 d_lw_handle_11 at_e rfl (show vp_in (nI 0) 1 from vp_in_nI (by decide) (by decide)) ?_
    refine ev_eq (ws' := w1 ++ [lw_o ks oq (vp_updL o 0 y.toInt64)]) ?_ (h3 := set_e)
    refine ev_goto 12 19 d_lw_handle_12 ?_
    refine ev_iconst_0 19 d_lw_handle_19 ?_
    exact ev_iret 20 d_lw_handle_20 rfl (Or.inl ⟨y, w1, hq, rfl, rfl⟩)
set_option maxHeartbeats 4000000 in
set_option maxRecDepth 100000 in
theorem hw_call {l : Launch} {D : va_G} {tl : List (ClassId × FieldType)} {Z : (Nat → Prop) → State → Heap → Prop} {ks : Nat → ClassId} {K : List Nat} {am N : Nat → Nat} {S : gS} {oq : Nat} {o : Nat → Int64} {Q : Option Value → va_W → Prop} {X : String → va_W → Prop} (hZ : ev_Zok Z) (hnc : lw_ZN Z) (p0 : Int32) (p1 : Int32) (p2 : Int32) (hK : 0 ∈ K) (hM : MX (hc_π l D ks tl Z) (m_hc_call 21 2 9) 2 9 [.ref (am 0), .int p0, .int p1, .int p2] (gw K am ks N S) Q X) (hQ : ∀ r w, Q r w → ∃ y, r = some (.int y)) (hX : ∀ E w, X E w → ∃ c, cd_call E c) : MT (hc_π l D ks tl Z) m_lw_call 2 9 [.ref (am 0), .int p0, .int p1, .int p2, .ref oq] (gw K am ks N S ++ [lw_o ks oq o]) (fun r w => (∃ y w1, Q (some (.int y)) w1 ∧ r = some (.int 0) ∧ w = w1 ++ [lw_o ks oq (vp_updL o 0 y.toInt64)]) ∨ ∃ E c w1, X E w1 ∧ cd_call E c ∧ r = some (.int c) ∧ w = w1 ++ [lw_o ks oq o]) := by
  refine mt_ofH (hh := h_call) (by decide) rfl (Nat.le_of_ble_eq_true rfl) (ev_eq (lv' := [some (.ref (am 0)), some (.int p0), some (.int p1), some (.int p2), some (.ref oq), none]) ?_)
  refine ev_aload_4 0 d_lw_call_0 ?_
  refine ev_iconst_0 2 d_lw_call_2 ?_
  refine ev_aload_0 3 d_lw_call_3 ?_
  refine ev_iload_1 4 d_lw_call_4 ?_
  refine ev_iload_2 5 d_lw_call_5 ?_
  refine ev_iload_3 6 d_lw_call_6 ?_
  refine ev_callVX (ci := 0) 7 (K.idxOf 0) [.int p0, .int p1, .int p2] [.int 0, .ref oq] d_lw_call_7 hZ kw_call ⟨rfl, rfl, ⟨by decide, by decide⟩, by decide, by decide⟩ (at_l (gw_at0 hK)) rfl (mx_frame hZ hM [lw_o ks oq o]) ?_ ?_
  · rintro E' w ⟨w1, rfl, hx⟩
    obtain ⟨c, hc⟩ := hX E' w1 hx
    have hc0 := hc
    rcases hc with ⟨rfl, rfl⟩ | ⟨rfl, rfl⟩ | ⟨rfl, rfl⟩ | ⟨rfl, rfl⟩
    · refine ⟨[], ⟨0, 12, 15, 15⟩, [⟨0, 12, 19, 13⟩, ⟨0, 12, 23, 37⟩, ⟨0, 12, 27, 60⟩], rfl, fun z hz => absurd hz List.not_mem_nil, rfl, by decide, lw_cl15, fun q9 => ?_⟩
      refine ev_astore_5 15 d_lw_call_15 ?_ (hn := by exact Nat.le_of_ble_eq_true rfl)
      refine ev_iconst_1 17 d_lw_call_17 ?_
      exact ev_iret 18 d_lw_call_18 rfl (Or.inr ⟨_, _, w1, hx, hc0, rfl, rfl⟩)
    · refine ⟨[⟨0, 12, 15, 15⟩], ⟨0, 12, 19, 13⟩, [⟨0, 12, 23, 37⟩, ⟨0, 12, 27, 60⟩], rfl, ?_, rfl, by decide, lw_cl13, fun q9 => ?_⟩
      · intro z hz
        simp only [List.mem_cons, List.not_mem_nil, or_false] at hz
        subst hz
        exact Or.inr ⟨by decide, _, lw_cl15, fun A s hz9 => hnc A s hz9 ("java/lang/IllegalArgumentException", "java/lang/IllegalStateException") (by decide)⟩
      · refine ev_astore_5 19 d_lw_call_19 ?_ (hn := by exact Nat.le_of_ble_eq_true rfl)
        refine ev_iconst_2 21 d_lw_call_21 ?_
        exact ev_iret 22 d_lw_call_22 rfl (Or.inr ⟨_, _, w1, hx, hc0, rfl, rfl⟩)
    · refine ⟨[⟨0, 12, 15, 15⟩, ⟨0, 12, 19, 13⟩], ⟨0, 12, 23, 37⟩, [⟨0, 12, 27, 60⟩], rfl, ?_, rfl, by decide, lw_cl37, fun q9 => ?_⟩
      · intro z hz
        simp only [List.mem_cons, List.not_mem_nil, or_false] at hz
        rcases hz with rfl | rfl
        · exact Or.inr ⟨by decide, _, lw_cl15, fun A s hz9 => hnc A s hz9 ("java/lang/UnsupportedOperationException", "java/lang/IllegalStateException") (by decide)⟩
        · exact Or.inr ⟨by decide, _, lw_cl13, fun A s hz9 => hnc A s hz9 ("java/lang/UnsupportedOperationException", "java/lang/IllegalArgumentException") (by decide)⟩
      · refine ev_astore_5 23 d_lw_call_23 ?_ (hn := by exact Nat.le_of_ble_eq_true rfl)
        refine ev_iconst_3 25 d_lw_call_25 ?_
        exact ev_iret 26 d_lw_call_26 rfl (Or.inr ⟨_, _, w1, hx, hc0, rfl, rfl⟩)
    · refine ⟨[⟨0, 12, 15, 15⟩, ⟨0, 12, 19, 13⟩, ⟨0, 12, 23, 37⟩], ⟨0, 12, 27, 60⟩, [], rfl, ?_, rfl, by decide, lw_cl60, fun q9 => ?_⟩
      · intro z hz
        simp only [List.mem_cons, List.not_mem_nil, or_false] at hz
        rcases hz with rfl | rfl | rfl
        · exact Or.inr ⟨by decide, _, lw_cl15, fun A s hz9 => hnc A s hz9 ("java/util/NoSuchElementException", "java/lang/IllegalStateException") (by decide)⟩
        · exact Or.inr ⟨by decide, _, lw_cl13, fun A s hz9 => hnc A s hz9 ("java/util/NoSuchElementException", "java/lang/IllegalArgumentException") (by decide)⟩
        · exact Or.inr ⟨by decide, _, lw_cl37, fun A s hz9 => hnc A s hz9 ("java/util/NoSuchElementException", "java/lang/UnsupportedOperationException") (by decide)⟩
      · refine ev_astore_5 27 d_lw_call_27 ?_ (hn := by exact Nat.le_of_ble_eq_true rfl)
        refine ev_iconst_4 29 d_lw_call_29 ?_
        exact ev_iret 30 d_lw_call_30 rfl (Or.inr ⟨_, _, w1, hx, hc0, rfl, rfl⟩)
  · rintro r w ⟨w1, rfl, hq⟩
    obtain ⟨y, rfl⟩ := hQ r w1 hq
    refine ev_eq (st' := [.int y, .int 0, .ref oq]) ?_
    refine ev_i2l 10 d_lw_call_10 ?_
    refine ev_last 11 w1.length 2 d_lw_call_11 at_e rfl (show vp_in (nI 0) 1 from vp_in_nI (by decide) (by decide)) ?_
    refine ev_eq (ws' := w1 ++ [lw_o ks oq (vp_updL o 0 y.toInt64)]) ?_ (h3 := set_e)
    refine ev_goto 12 31 d_lw_call_12 ?_
    refine ev_iconst_0 31 d_lw_call_31 ?_
    exact ev_iret 32 d_lw_call_32 rfl (Or.inl ⟨y, w1, hq, rfl, rfl⟩)
set_option maxHeartbeats 4000000 in
set_option maxRecDepth 100000 in
theorem hw_back {l : Launch} {D : va_G} {tl : List (ClassId × FieldType)} {Z : (Nat → Prop) → State → Heap → Prop} {ks : Nat → ClassId} {K : List Nat} {am N : Nat → Nat} {S : gS} {oq : Nat} {o : Nat → Int64} {Q : Option Value → va_W → Prop} {X : String → va_W → Prop} (hZ : ev_Zok Z) (hnc : lw_ZN Z) (p0 : Int32) (p1 : Int32) (hK : 0 ∈ K) (hM : MX (hc_π l D ks tl Z) (m_hc_back 21 2 9) 2 9 [.ref (am 0), .int p0, .int p1] (gw K am ks N S) Q X) (hQ : ∀ r w, Q r w → ∃ y, r = some (.int y)) (hX : ∀ E w, X E w → ∃ c, cd_back E c) : MT (hc_π l D ks tl Z) m_lw_back 2 9 [.ref (am 0), .int p0, .int p1, .ref oq] (gw K am ks N S ++ [lw_o ks oq o]) (fun r w => (∃ y w1, Q (some (.int y)) w1 ∧ r = some (.int 0) ∧ w = w1 ++ [lw_o ks oq (vp_updL o 0 y.toInt64)]) ∨ ∃ E c w1, X E w1 ∧ cd_back E c ∧ r = some (.int c) ∧ w = w1 ++ [lw_o ks oq o]) := by
  refine mt_ofH (hh := h_back) (by decide) rfl (Nat.le_of_ble_eq_true rfl) (ev_eq (lv' := [some (.ref (am 0)), some (.int p0), some (.int p1), some (.ref oq), none]) ?_)
  refine ev_aload_3 0 d_lw_back_0 ?_
  refine ev_iconst_0 1 d_lw_back_1 ?_
  refine ev_aload_0 2 d_lw_back_2 ?_
  refine ev_iload_1 3 d_lw_back_3 ?_
  refine ev_iload_2 4 d_lw_back_4 ?_
  refine ev_callVX (ci := 0) 5 (K.idxOf 0) [.int p0, .int p1] [.int 0, .ref oq] d_lw_back_5 hZ kw_back ⟨rfl, rfl, ⟨by decide, by decide⟩, by decide, by decide⟩ (at_l (gw_at0 hK)) rfl (mx_frame hZ hM [lw_o ks oq o]) ?_ ?_
  · rintro E' w ⟨w1, rfl, hx⟩
    obtain ⟨c, hc⟩ := hX E' w1 hx
    have hc0 := hc
    rcases hc with ⟨rfl, rfl⟩ | ⟨rfl, rfl⟩ | ⟨rfl, rfl⟩
    · refine ⟨[], ⟨0, 10, 13, 15⟩, [⟨0, 10, 17, 13⟩, ⟨0, 10, 21, 37⟩], rfl, fun z hz => absurd hz List.not_mem_nil, rfl, by decide, lw_cl15, fun q9 => ?_⟩
      refine ev_astore_4 13 d_lw_back_13 ?_ (hn := by exact Nat.le_of_ble_eq_true rfl)
      refine ev_iconst_1 15 d_lw_back_15 ?_
      exact ev_iret 16 d_lw_back_16 rfl (Or.inr ⟨_, _, w1, hx, hc0, rfl, rfl⟩)
    · refine ⟨[⟨0, 10, 13, 15⟩], ⟨0, 10, 17, 13⟩, [⟨0, 10, 21, 37⟩], rfl, ?_, rfl, by decide, lw_cl13, fun q9 => ?_⟩
      · intro z hz
        simp only [List.mem_cons, List.not_mem_nil, or_false] at hz
        subst hz
        exact Or.inr ⟨by decide, _, lw_cl15, fun A s hz9 => hnc A s hz9 ("java/lang/IllegalArgumentException", "java/lang/IllegalStateException") (by decide)⟩
      · refine ev_astore_4 17 d_lw_back_17 ?_ (hn := by exact Nat.le_of_ble_eq_true rfl)
        refine ev_iconst_2 19 d_lw_back_19 ?_
        exact ev_iret 20 d_lw_back_20 rfl (Or.inr ⟨_, _, w1, hx, hc0, rfl, rfl⟩)
    · refine ⟨[⟨0, 10, 13, 15⟩, ⟨0, 10, 17, 13⟩], ⟨0, 10, 21, 37⟩, [], rfl, ?_, rfl, by decide, lw_cl37, fun q9 => ?_⟩
      · intro z hz
        simp only [List.mem_cons, List.not_mem_nil, or_false] at hz
        rcases hz with rfl | rfl
        · exact Or.inr ⟨by decide, _, lw_cl15, fun A s hz9 => hnc A s hz9 ("java/lang/UnsupportedOperationException", "java/lang/IllegalStateException") (by decide)⟩
        · exact Or.inr ⟨by decide, _, lw_cl13, fun A s hz9 => hnc A s hz9 ("java/lang/UnsupportedOperationException", "java/lang/IllegalArgumentException") (by decide)⟩
      · refine ev_astore_4 21 d_lw_back_21 ?_ (hn := by exact Nat.le_of_ble_eq_true rfl)
        refine ev_iconst_3 23 d_lw_back_23 ?_
        exact ev_iret 24 d_lw_back_24 rfl (Or.inr ⟨_, _, w1, hx, hc0, rfl, rfl⟩)
  · rintro r w ⟨w1, rfl, hq⟩
    obtain ⟨y, rfl⟩ := hQ r w1 hq
    refine ev_eq (st' := [.int y, .int 0, .ref oq]) ?_
    refine ev_i2l 8 d_lw_back_8 ?_
    refine ev_last 9 w1.length 2 d_lw_back_9 at_e rfl (show vp_in (nI 0) 1 from vp_in_nI (by decide) (by decide)) ?_
    refine ev_eq (ws' := w1 ++ [lw_o ks oq (vp_updL o 0 y.toInt64)]) ?_ (h3 := set_e)
    refine ev_goto 10 25 d_lw_back_10 ?_
    refine ev_iconst_0 25 d_lw_back_25 ?_
    exact ev_iret 26 d_lw_back_26 rfl (Or.inl ⟨y, w1, hq, rfl, rfl⟩)
set_option maxHeartbeats 4000000 in
set_option maxRecDepth 100000 in
theorem hw_trap {l : Launch} {D : va_G} {tl : List (ClassId × FieldType)} {Z : (Nat → Prop) → State → Heap → Prop} {ks : Nat → ClassId} {K : List Nat} {am N : Nat → Nat} {S : gS} {Q : Option Value → va_W → Prop} {X : String → va_W → Prop} (hZ : ev_Zok Z) (hnc : lw_ZN Z)  (hK : 0 ∈ K) (hM : MX (hc_π l D ks tl Z) (m_hc_trap 21 1 6) 1 6 [.ref (am 0)] (gw K am ks N S) Q X) (hQ : ∀ r w, Q r w → r = none) (hX : ∀ E w, X E w → ∃ c, cd_trap E c) : MT (hc_π l D ks tl Z) m_lw_trap 1 6 [.ref (am 0)] (gw K am ks N S) (fun r w => (Q none w ∧ r = some (.int 0)) ∨ ∃ E c, X E w ∧ cd_trap E c ∧ r = some (.int c)) := by
  refine mt_ofH (hh := h_trap) (by decide) rfl (Nat.le_of_ble_eq_true rfl) (ev_eq (lv' := [some (.ref (am 0)), none]) ?_)
  refine ev_aload_0 0 d_lw_trap_0 ?_
  refine ev_callVX (ci := 0) 1 (K.idxOf 0) [] [] d_lw_trap_1 hZ kw_trap ⟨rfl, rfl, ⟨by decide, by decide⟩, by decide, by decide⟩ (gw_at0 hK) rfl hM ?_ ?_
  · intro E' w hx
    obtain ⟨c, hc⟩ := hX E' w hx
    have hc0 := hc
    obtain ⟨rfl, rfl⟩ := hc
    refine ⟨[], ⟨0, 4, 7, 15⟩, [], rfl, fun z hz => absurd hz List.not_mem_nil, rfl, by decide, lw_cl15, fun q9 => ?_⟩
    refine ev_astore_1 7 d_lw_trap_7 ?_ (hn := by exact Nat.le_of_ble_eq_true rfl)
    refine ev_iconst_1 8 d_lw_trap_8 ?_
    exact ev_iret 9 d_lw_trap_9 rfl (Or.inr ⟨_, _, hx, hc0, rfl⟩)
  · intro r w hq
    obtain rfl := hQ r w hq
    refine ev_eq (st' := []) ?_
    refine ev_goto 4 10 d_lw_trap_4 ?_
    refine ev_iconst_0 10 d_lw_trap_10 ?_
    exact ev_iret 11 d_lw_trap_11 rfl (Or.inl ⟨hq, rfl⟩)
set_option maxHeartbeats 4000000 in
set_option maxRecDepth 100000 in
theorem hw_state {l : Launch} {D : va_G} {tl : List (ClassId × FieldType)} {Z : (Nat → Prop) → State → Heap → Prop} {ks : Nat → ClassId} {K : List Nat} {am N : Nat → Nat} {S : gS} {oq : Nat} {o : Nat → Int64} {Q : Option Value → va_W → Prop} {X : String → va_W → Prop} (hZ : ev_Zok Z) (hnc : lw_ZN Z) (p0 : Int32) (p1 : Int32) (hK : 0 ∈ K) (hM : MX (hc_π l D ks tl Z) (m_hc_state 21 1 6) 1 6 [.ref (am 0), .int p0, .int p1] (gw K am ks N S) Q X) (hQ : ∀ r w, Q r w → ∃ y, r = some (.int y)) (hX : ∀ E w, X E w → ∃ c, cd_state E c) : MT (hc_π l D ks tl Z) m_lw_state 1 6 [.ref (am 0), .int p0, .int p1, .ref oq] (gw K am ks N S ++ [lw_o ks oq o]) (fun r w => (∃ y w1, Q (some (.int y)) w1 ∧ r = some (.int 0) ∧ w = w1 ++ [lw_o ks oq (vp_updL o 0 y.toInt64)]) ∨ ∃ E c w1, X E w1 ∧ cd_state E c ∧ r = some (.int c) ∧ w = w1 ++ [lw_o ks oq o]) := by
  refine mt_ofH (hh := h_state) (by decide) rfl (Nat.le_of_ble_eq_true rfl) (ev_eq (lv' := [some (.ref (am 0)), some (.int p0), some (.int p1), some (.ref oq), none]) ?_)
  refine ev_aload_3 0 d_lw_state_0 ?_
  refine ev_iconst_0 1 d_lw_state_1 ?_
  refine ev_aload_0 2 d_lw_state_2 ?_
  refine ev_iload_1 3 d_lw_state_3 ?_
  refine ev_iload_2 4 d_lw_state_4 ?_
  refine ev_callVX (ci := 0) 5 (K.idxOf 0) [.int p0, .int p1] [.int 0, .ref oq] d_lw_state_5 hZ kw_state ⟨rfl, rfl, ⟨by decide, by decide⟩, by decide, by decide⟩ (at_l (gw_at0 hK)) rfl (mx_frame hZ hM [lw_o ks oq o]) ?_ ?_
  · rintro E' w ⟨w1, rfl, hx⟩
    obtain ⟨c, hc⟩ := hX E' w1 hx
    have hc0 := hc
    obtain ⟨rfl, rfl⟩ := hc
    refine ⟨[], ⟨0, 10, 13, 13⟩, [], rfl, fun z hz => absurd hz List.not_mem_nil, rfl, by decide, lw_cl13, fun q9 => ?_⟩
    refine ev_astore_4 13 d_lw_state_13 ?_ (hn := by exact Nat.le_of_ble_eq_true rfl)
    refine ev_iconst_1 15 d_lw_state_15 ?_
    exact ev_iret 16 d_lw_state_16 rfl (Or.inr ⟨_, _, w1, hx, hc0, rfl, rfl⟩)
  · rintro r w ⟨w1, rfl, hq⟩
    obtain ⟨y, rfl⟩ := hQ r w1 hq
    refine ev_eq (st' := [.int y, .int 0, .ref oq]) ?_
    refine ev_i2l 8 d_lw_state_8 ?_
    refine ev_last 9 w1.length 2 d_lw_state_9 at_e rfl (show vp_in (nI 0) 1 from vp_in_nI (by decide) (by decide)) ?_
    refine ev_eq (ws' := w1 ++ [lw_o ks oq (vp_updL o 0 y.toInt64)]) ?_ (h3 := set_e)
    refine ev_goto 10 17 d_lw_state_10 ?_
    refine ev_iconst_0 17 d_lw_state_17 ?_
    exact ev_iret 18 d_lw_state_18 rfl (Or.inl ⟨y, w1, hq, rfl, rfl⟩)
set_option maxHeartbeats 4000000 in
set_option maxRecDepth 100000 in
theorem hw_close {l : Launch} {D : va_G} {tl : List (ClassId × FieldType)} {Z : (Nat → Prop) → State → Heap → Prop} {ks : Nat → ClassId} {K : List Nat} {am N : Nat → Nat} {S : gS} {oq : Nat} {o : Nat → Int64} {Q : Option Value → va_W → Prop} {X : String → va_W → Prop} (hZ : ev_Zok Z) (hnc : lw_ZN Z) (p0 : Int32) (hK : 0 ∈ K) (hM : MX (hc_π l D ks tl Z) (m_hc_close 21 1 6) 1 6 [.ref (am 0), .int p0] (gw K am ks N S) Q X) (hQ : ∀ r w, Q r w → ∃ y, r = some (.int y)) (hX : ∀ E w, X E w → ∃ c, cd_close E c) : MT (hc_π l D ks tl Z) m_lw_close 1 6 [.ref (am 0), .int p0, .ref oq] (gw K am ks N S ++ [lw_o ks oq o]) (fun r w => (∃ y w1, Q (some (.int y)) w1 ∧ r = some (.int 0) ∧ w = w1 ++ [lw_o ks oq (vp_updL o 0 y.toInt64)]) ∨ ∃ E c w1, X E w1 ∧ cd_close E c ∧ r = some (.int c) ∧ w = w1 ++ [lw_o ks oq o]) := by
  refine mt_ofH (hh := h_close) (by decide) rfl (Nat.le_of_ble_eq_true rfl) (ev_eq (lv' := [some (.ref (am 0)), some (.int p0), some (.ref oq), none]) ?_)
  refine ev_aload_2 0 d_lw_close_0 ?_
  refine ev_iconst_0 1 d_lw_close_1 ?_
  refine ev_aload_0 2 d_lw_close_2 ?_
  refine ev_iload_1 3 d_lw_close_3 ?_
  refine ev_callVX (ci := 0) 4 (K.idxOf 0) [.int p0] [.int 0, .ref oq] d_lw_close_4 hZ kw_close ⟨rfl, rfl, ⟨by decide, by decide⟩, by decide, by decide⟩ (at_l (gw_at0 hK)) rfl (mx_frame hZ hM [lw_o ks oq o]) ?_ ?_
  · rintro E' w ⟨w1, rfl, hx⟩
    obtain ⟨c, hc⟩ := hX E' w1 hx
    have hc0 := hc
    rcases hc with ⟨rfl, rfl⟩ | ⟨rfl, rfl⟩
    · refine ⟨[], ⟨0, 9, 12, 13⟩, [⟨0, 9, 15, 15⟩], rfl, fun z hz => absurd hz List.not_mem_nil, rfl, by decide, lw_cl13, fun q9 => ?_⟩
      refine ev_astore_3 12 d_lw_close_12 ?_ (hn := by exact Nat.le_of_ble_eq_true rfl)
      refine ev_iconst_1 13 d_lw_close_13 ?_
      exact ev_iret 14 d_lw_close_14 rfl (Or.inr ⟨_, _, w1, hx, hc0, rfl, rfl⟩)
    · refine ⟨[⟨0, 9, 12, 13⟩], ⟨0, 9, 15, 15⟩, [], rfl, ?_, rfl, by decide, lw_cl15, fun q9 => ?_⟩
      · intro z hz
        simp only [List.mem_cons, List.not_mem_nil, or_false] at hz
        subst hz
        exact Or.inr ⟨by decide, _, lw_cl13, fun A s hz9 => hnc A s hz9 ("java/lang/IllegalStateException", "java/lang/IllegalArgumentException") (by decide)⟩
      · refine ev_astore_3 15 d_lw_close_15 ?_ (hn := by exact Nat.le_of_ble_eq_true rfl)
        refine ev_iconst_2 16 d_lw_close_16 ?_
        exact ev_iret 17 d_lw_close_17 rfl (Or.inr ⟨_, _, w1, hx, hc0, rfl, rfl⟩)
  · rintro r w ⟨w1, rfl, hq⟩
    obtain ⟨y, rfl⟩ := hQ r w1 hq
    refine ev_eq (st' := [.int y, .int 0, .ref oq]) ?_
    refine ev_i2l 7 d_lw_close_7 ?_
    refine ev_last 8 w1.length 2 d_lw_close_8 at_e rfl (show vp_in (nI 0) 1 from vp_in_nI (by decide) (by decide)) ?_
    refine ev_eq (ws' := w1 ++ [lw_o ks oq (vp_updL o 0 y.toInt64)]) ?_ (h3 := set_e)
    refine ev_goto 9 18 d_lw_close_9 ?_
    refine ev_iconst_0 18 d_lw_close_18 ?_
    exact ev_iret 19 d_lw_close_19 rfl (Or.inl ⟨y, w1, hq, rfl, rfl⟩)
set_option maxHeartbeats 4000000 in
set_option maxRecDepth 100000 in
theorem hw_resources {l : Launch} {D : va_G} {tl : List (ClassId × FieldType)} {Z : (Nat → Prop) → State → Heap → Prop} {ks : Nat → ClassId} {K : List Nat} {am N : Nat → Nat} {S : gS} {oq : Nat} {o : Nat → Int64} {Q : Option Value → va_W → Prop} {X : String → va_W → Prop} (hZ : ev_Zok Z) (hnc : lw_ZN Z) (p0 : Int32) (p1 : Int32) (hK : 0 ∈ K) (hM : MX (hc_π l D ks tl Z) (m_hc_resources 21 1 6) 1 6 [.ref (am 0), .int p0, .int p1] (gw K am ks N S) Q X) (hQ : ∀ r w, Q r w → ∃ y, r = some (.int y)) (hX : ∀ E w, X E w → ∃ c, cd_resources E c) : MT (hc_π l D ks tl Z) m_lw_resources 1 6 [.ref (am 0), .int p0, .int p1, .ref oq] (gw K am ks N S ++ [lw_o ks oq o]) (fun r w => (∃ y w1, Q (some (.int y)) w1 ∧ r = some (.int 0) ∧ w = w1 ++ [lw_o ks oq (vp_updL o 0 y.toInt64)]) ∨ ∃ E c w1, X E w1 ∧ cd_resources E c ∧ r = some (.int c) ∧ w = w1 ++ [lw_o ks oq o]) := by
  refine mt_ofH (hh := h_resources) (by decide) rfl (Nat.le_of_ble_eq_true rfl) (ev_eq (lv' := [some (.ref (am 0)), some (.int p0), some (.int p1), some (.ref oq), none]) ?_)
  refine ev_aload_3 0 d_lw_resources_0 ?_
  refine ev_iconst_0 1 d_lw_resources_1 ?_
  refine ev_aload_0 2 d_lw_resources_2 ?_
  refine ev_iload_1 3 d_lw_resources_3 ?_
  refine ev_iload_2 4 d_lw_resources_4 ?_
  refine ev_callVX (ci := 0) 5 (K.idxOf 0) [.int p0, .int p1] [.int 0, .ref oq] d_lw_resources_5 hZ kw_resources ⟨rfl, rfl, ⟨by decide, by decide⟩, by decide, by decide⟩ (at_l (gw_at0 hK)) rfl (mx_frame hZ hM [lw_o ks oq o]) ?_ ?_
  · rintro E' w ⟨w1, rfl, hx⟩
    obtain ⟨c, hc⟩ := hX E' w1 hx
    have hc0 := hc
    obtain ⟨rfl, rfl⟩ := hc
    refine ⟨[], ⟨0, 10, 13, 13⟩, [], rfl, fun z hz => absurd hz List.not_mem_nil, rfl, by decide, lw_cl13, fun q9 => ?_⟩
    refine ev_astore_4 13 d_lw_resources_13 ?_ (hn := by exact Nat.le_of_ble_eq_true rfl)
    refine ev_iconst_1 15 d_lw_resources_15 ?_
    exact ev_iret 16 d_lw_resources_16 rfl (Or.inr ⟨_, _, w1, hx, hc0, rfl, rfl⟩)
  · rintro r w ⟨w1, rfl, hq⟩
    obtain ⟨y, rfl⟩ := hQ r w1 hq
    refine ev_eq (st' := [.int y, .int 0, .ref oq]) ?_
    refine ev_i2l 8 d_lw_resources_8 ?_
    refine ev_last 9 w1.length 2 d_lw_resources_9 at_e rfl (show vp_in (nI 0) 1 from vp_in_nI (by decide) (by decide)) ?_
    refine ev_eq (ws' := w1 ++ [lw_o ks oq (vp_updL o 0 y.toInt64)]) ?_ (h3 := set_e)
    refine ev_goto 10 17 d_lw_resources_10 ?_
    refine ev_iconst_0 17 d_lw_resources_17 ?_
    exact ev_iret 18 d_lw_resources_18 rfl (Or.inl ⟨y, w1, hq, rfl, rfl⟩)
set_option maxHeartbeats 4000000 in
set_option maxRecDepth 100000 in
theorem hw_latest {l : Launch} {D : va_G} {tl : List (ClassId × FieldType)} {Z : (Nat → Prop) → State → Heap → Prop} {ks : Nat → ClassId} {K : List Nat} {am N : Nat → Nat} {S : gS} {oq : Nat} {o : Nat → Int64} {Q : Option Value → va_W → Prop} {X : String → va_W → Prop} (hZ : ev_Zok Z) (hnc : lw_ZN Z) (p0 : Int32) (hK : 0 ∈ K) (hM : MX (hc_π l D ks tl Z) (m_hc_latest 21 1 6) 1 6 [.ref (am 0), .int p0] (gw K am ks N S) Q X) (hQ : ∀ r w, Q r w → ∃ y, r = some (.int y)) (hX : ∀ E w, X E w → ∃ c, cd_latest E c) : MT (hc_π l D ks tl Z) m_lw_latest 1 6 [.ref (am 0), .int p0, .ref oq] (gw K am ks N S ++ [lw_o ks oq o]) (fun r w => (∃ y w1, Q (some (.int y)) w1 ∧ r = some (.int 0) ∧ w = w1 ++ [lw_o ks oq (vp_updL o 0 y.toInt64)]) ∨ ∃ E c w1, X E w1 ∧ cd_latest E c ∧ r = some (.int c) ∧ w = w1 ++ [lw_o ks oq o]) := by
  refine mt_ofH (hh := h_latest) (by decide) rfl (Nat.le_of_ble_eq_true rfl) (ev_eq (lv' := [some (.ref (am 0)), some (.int p0), some (.ref oq), none]) ?_)
  refine ev_aload_2 0 d_lw_latest_0 ?_
  refine ev_iconst_0 1 d_lw_latest_1 ?_
  refine ev_aload_0 2 d_lw_latest_2 ?_
  refine ev_iload_1 3 d_lw_latest_3 ?_
  refine ev_callVX (ci := 0) 4 (K.idxOf 0) [.int p0] [.int 0, .ref oq] d_lw_latest_4 hZ kw_latest ⟨rfl, rfl, ⟨by decide, by decide⟩, by decide, by decide⟩ (at_l (gw_at0 hK)) rfl (mx_frame hZ hM [lw_o ks oq o]) ?_ ?_
  · rintro E' w ⟨w1, rfl, hx⟩
    obtain ⟨c, hc⟩ := hX E' w1 hx
    have hc0 := hc
    obtain ⟨rfl, rfl⟩ := hc
    refine ⟨[], ⟨0, 9, 12, 13⟩, [], rfl, fun z hz => absurd hz List.not_mem_nil, rfl, by decide, lw_cl13, fun q9 => ?_⟩
    refine ev_astore_3 12 d_lw_latest_12 ?_ (hn := by exact Nat.le_of_ble_eq_true rfl)
    refine ev_iconst_1 13 d_lw_latest_13 ?_
    exact ev_iret 14 d_lw_latest_14 rfl (Or.inr ⟨_, _, w1, hx, hc0, rfl, rfl⟩)
  · rintro r w ⟨w1, rfl, hq⟩
    obtain ⟨y, rfl⟩ := hQ r w1 hq
    refine ev_eq (st' := [.int y, .int 0, .ref oq]) ?_
    refine ev_i2l 7 d_lw_latest_7 ?_
    refine ev_last 8 w1.length 2 d_lw_latest_8 at_e rfl (show vp_in (nI 0) 1 from vp_in_nI (by decide) (by decide)) ?_
    refine ev_eq (ws' := w1 ++ [lw_o ks oq (vp_updL o 0 y.toInt64)]) ?_ (h3 := set_e)
    refine ev_goto 9 15 d_lw_latest_9 ?_
    refine ev_iconst_0 15 d_lw_latest_15 ?_
    exact ev_iret 16 d_lw_latest_16 rfl (Or.inl ⟨y, w1, hq, rfl, rfl⟩)
