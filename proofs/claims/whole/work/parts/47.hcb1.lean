set_option maxHeartbeats 4000000 in
set_option maxRecDepth 100000 in
theorem ht_hc_isPlace {π : ev_P} {ws : va_W} {k : Nat} (x : Int32) : MT π (m_hc_isPlace k 0 0) 0 0 [.int x] ws (fun r w => w = ws ∧ ∃ y, r = some (.int y) ∧ mo_bl y (¬ x < 0 ∧ ¬ 256 ≤ x)) := by
  refine mt_of pl_hc rfl (Nat.le_of_ble_eq_true rfl) (ev_eq (lv' := [some (.int x)]) ?_)
  refine ev_iload_0 0 d_hc_isPlace_0 ?_
  refine ev_iflt 1 15 d_hc_isPlace_1 (fun c1 => ?_) (fun c1 => ?_)
  · refine ev_iconst_0 15 d_hc_isPlace_15 ?_
    refine ev_zret 16 d_hc_isPlace_16 rfl ?_ ?_
    · rfl
    exact ⟨rfl, _, rfl, Or.inr ⟨rfl, fun z => z.1 c1⟩⟩
  · refine ev_iload_0 4 d_hc_isPlace_4 ?_
    refine ev_sipush (256) 5 d_hc_isPlace_5 (by decide) ?_
    refine ev_icmpge 8 15 d_hc_isPlace_8 (fun c8 => ?_) (fun c8 => ?_)
    · refine ev_iconst_0 15 d_hc_isPlace_15 ?_
      refine ev_zret 16 d_hc_isPlace_16 rfl ?_ ?_
      · rfl
      exact ⟨rfl, _, rfl, Or.inr ⟨rfl, fun z => z.2 c8⟩⟩
    · refine ev_iconst_1 11 d_hc_isPlace_11 ?_
      refine ev_goto 12 16 d_hc_isPlace_12 ?_
      refine ev_zret 16 d_hc_isPlace_16 rfl ?_ ?_
      · rfl
      exact ⟨rfl, _, rfl, Or.inl ⟨rfl, c1, c8⟩⟩

set_option maxHeartbeats 4000000 in
set_option maxRecDepth 100000 in
theorem ht_hc_isKind {π : ev_P} {ws : va_W} {k : Nat} (x : Int32) : MT π (m_hc_isKind k 0 0) 0 0 [.int x] ws (fun r w => w = ws ∧ ∃ y, r = some (.int y) ∧ mo_bl y (¬ x < 0 ∧ ¬ 12 < x)) := by
  refine mt_of pl_hc rfl (Nat.le_of_ble_eq_true rfl) (ev_eq (lv' := [some (.int x)]) ?_)
  refine ev_iload_0 0 d_hc_isKind_0 ?_
  refine ev_iflt 1 14 d_hc_isKind_1 (fun c1 => ?_) (fun c1 => ?_)
  · refine ev_iconst_0 14 d_hc_isKind_14 ?_
    refine ev_zret 15 d_hc_isKind_15 rfl ?_ ?_
    · rfl
    exact ⟨rfl, _, rfl, Or.inr ⟨rfl, fun z => z.1 c1⟩⟩
  · refine ev_iload_0 4 d_hc_isKind_4 ?_
    refine ev_bipush (12) 5 d_hc_isKind_5 (by decide) ?_
    refine ev_icmpgt 7 14 d_hc_isKind_7 (fun c7 => ?_) (fun c7 => ?_)
    · refine ev_iconst_0 14 d_hc_isKind_14 ?_
      refine ev_zret 15 d_hc_isKind_15 rfl ?_ ?_
      · rfl
      exact ⟨rfl, _, rfl, Or.inr ⟨rfl, fun z => z.2 c7⟩⟩
    · refine ev_iconst_1 10 d_hc_isKind_10 ?_
      refine ev_goto 11 15 d_hc_isKind_11 ?_
      refine ev_zret 15 d_hc_isKind_15 rfl ?_ ?_
      · rfl
      exact ⟨rfl, _, rfl, Or.inl ⟨rfl, c1, c7⟩⟩

set_option maxHeartbeats 4000000 in
set_option maxRecDepth 100000 in
theorem ht_hc_isResourceKind {π : ev_P} {ws : va_W} {k : Nat} (x : Int32) : MT π (m_hc_isResourceKind k 0 0) 0 0 [.int x] ws (fun r w => w = ws ∧ ∃ y, r = some (.int y) ∧ mo_bl y (¬ x < 0 ∧ ¬ 4 ≤ x)) := by
  refine mt_of pl_hc rfl (Nat.le_of_ble_eq_true rfl) (ev_eq (lv' := [some (.int x)]) ?_)
  refine ev_iload_0 0 d_hc_isResourceKind_0 ?_
  refine ev_iflt 1 13 d_hc_isResourceKind_1 (fun c1 => ?_) (fun c1 => ?_)
  · refine ev_iconst_0 13 d_hc_isResourceKind_13 ?_
    refine ev_zret 14 d_hc_isResourceKind_14 rfl ?_ ?_
    · rfl
    exact ⟨rfl, _, rfl, Or.inr ⟨rfl, fun z => z.1 c1⟩⟩
  · refine ev_iload_0 4 d_hc_isResourceKind_4 ?_
    refine ev_iconst_4 5 d_hc_isResourceKind_5 ?_
    refine ev_icmpge 6 13 d_hc_isResourceKind_6 (fun c6 => ?_) (fun c6 => ?_)
    · refine ev_iconst_0 13 d_hc_isResourceKind_13 ?_
      refine ev_zret 14 d_hc_isResourceKind_14 rfl ?_ ?_
      · rfl
      exact ⟨rfl, _, rfl, Or.inr ⟨rfl, fun z => z.2 c6⟩⟩
    · refine ev_iconst_1 9 d_hc_isResourceKind_9 ?_
      refine ev_goto 10 14 d_hc_isResourceKind_10 ?_
      refine ev_zret 14 d_hc_isResourceKind_14 rfl ?_ ?_
      · rfl
      exact ⟨rfl, _, rfl, Or.inl ⟨rfl, c1, c6⟩⟩

set_option maxHeartbeats 4000000 in
set_option maxRecDepth 100000 in
theorem ht_hc_alignedFrom {π : ev_P} {ws : va_W} {k : Nat} (a : Int32) (al : Int32) : MT π (m_hc_alignedFrom k 0 0) 0 0 [.int a, .int al] ws (fun r w => w = ws ∧ ∃ y, r = some (.int y) ∧ y = (a + al - 1) &&& (-al)) := by
  refine mt_of pl_hc rfl (Nat.le_of_ble_eq_true rfl) (ev_eq (lv' := [some (.int a), some (.int al)]) ?_)
  refine ev_iload_0 0 d_hc_alignedFrom_0 ?_
  refine ev_iload_1 1 d_hc_alignedFrom_1 ?_
  refine ev_iadd 2 d_hc_alignedFrom_2 ?_
  refine ev_iconst_1 3 d_hc_alignedFrom_3 ?_
  refine ev_isub 4 d_hc_alignedFrom_4 ?_
  refine ev_iload_1 5 d_hc_alignedFrom_5 ?_
  refine ev_ineg 6 d_hc_alignedFrom_6 ?_
  refine ev_iand 7 d_hc_alignedFrom_7 ?_
  refine ev_iret 8 d_hc_alignedFrom_8 rfl ?_
  exact ⟨rfl, _, rfl, rfl⟩

set_option maxHeartbeats 4000000 in
set_option maxRecDepth 100000 in
theorem ht_hc_isType {l : Launch} {D : va_G} {tl : List (ClassId × FieldType)} {Z : (Nat → Prop) → State → Heap → Prop} {K : List Nat} {am : Nat → Nat} {ks : Nat → ClassId} {N : Nat → Nat} {S : gS} {k : Nat} (t : Int32) (h0 : 0 ∈ K) (n : Int32) (hn : S.1 0 1 = .int n) : MT (hc_π l D ks tl Z) (m_hc_isType k 0 0) 0 0 [.ref (am 0), .int t] (gw K am ks N S) (fun r w => w = (gw K am ks N S) ∧ ∃ y, r = some (.int y) ∧ mo_bl y (¬ t < 0 ∧ ¬ n ≤ t)) := by
  refine mt_of pl_hc rfl (Nat.le_of_ble_eq_true rfl) (ev_eq (lv' := [some (.ref (am 0)), some (.int t)]) ?_)
  refine ev_iload_1 0 d_hc_isType_0 ?_
  refine ev_iflt 1 16 d_hc_isType_1 (fun c1 => ?_) (fun c1 => ?_)
  · refine ev_iconst_0 16 d_hc_isType_16 ?_
    refine ev_zret 17 d_hc_isType_17 rfl ?_ ?_
    · rfl
    exact ⟨rfl, _, rfl, Or.inr ⟨rfl, fun z => z.1 c1⟩⟩
  · refine ev_iload_1 4 d_hc_isType_4 ?_
    refine ev_aload_0 5 d_hc_isType_5 ?_
    refine gw_get 6 (0) 1 d_hc_isType_6 lk_hc_15 h0 rfl (.int n) hn ?_
    refine ev_icmpge 9 16 d_hc_isType_9 (fun c9 => ?_) (fun c9 => ?_)
    · refine ev_iconst_0 16 d_hc_isType_16 ?_
      refine ev_zret 17 d_hc_isType_17 rfl ?_ ?_
      · rfl
      exact ⟨rfl, _, rfl, Or.inr ⟨rfl, fun z => z.2 c9⟩⟩
    · refine ev_iconst_1 12 d_hc_isType_12 ?_
      refine ev_goto 13 17 d_hc_isType_13 ?_
      refine ev_zret 17 d_hc_isType_17 rfl ?_ ?_
      · rfl
      exact ⟨rfl, _, rfl, Or.inl ⟨rfl, c1, c9⟩⟩

set_option maxHeartbeats 4000000 in
set_option maxRecDepth 100000 in
theorem ht_hc_isInstance {l : Launch} {D : va_G} {tl : List (ClassId × FieldType)} {Z : (Nat → Prop) → State → Heap → Prop} {K : List Nat} {am : Nat → Nat} {ks : Nat → ClassId} {N : Nat → Nat} {S : gS} {k : Nat} (t : Int32) (h0 : 0 ∈ K) (n : Int32) (hn : S.1 0 5 = .int n) : MT (hc_π l D ks tl Z) (m_hc_isInstance k 0 0) 0 0 [.ref (am 0), .int t] (gw K am ks N S) (fun r w => w = (gw K am ks N S) ∧ ∃ y, r = some (.int y) ∧ mo_bl y (¬ t < 0 ∧ ¬ n ≤ t)) := by
  refine mt_of pl_hc rfl (Nat.le_of_ble_eq_true rfl) (ev_eq (lv' := [some (.ref (am 0)), some (.int t)]) ?_)
  refine ev_iload_1 0 d_hc_isInstance_0 ?_
  refine ev_iflt 1 16 d_hc_isInstance_1 (fun c1 => ?_) (fun c1 => ?_)
  · refine ev_iconst_0 16 d_hc_isInstance_16 ?_
    refine ev_zret 17 d_hc_isInstance_17 rfl ?_ ?_
    · rfl
    exact ⟨rfl, _, rfl, Or.inr ⟨rfl, fun z => z.1 c1⟩⟩
  · refine ev_iload_1 4 d_hc_isInstance_4 ?_
    refine ev_aload_0 5 d_hc_isInstance_5 ?_
    refine gw_get 6 (0) 5 d_hc_isInstance_6 lk_hc_31 h0 rfl (.int n) hn ?_
    refine ev_icmpge 9 16 d_hc_isInstance_9 (fun c9 => ?_) (fun c9 => ?_)
    · refine ev_iconst_0 16 d_hc_isInstance_16 ?_
      refine ev_zret 17 d_hc_isInstance_17 rfl ?_ ?_
      · rfl
      exact ⟨rfl, _, rfl, Or.inr ⟨rfl, fun z => z.2 c9⟩⟩
    · refine ev_iconst_1 12 d_hc_isInstance_12 ?_
      refine ev_goto 13 17 d_hc_isInstance_13 ?_
      refine ev_zret 17 d_hc_isInstance_17 rfl ?_ ?_
      · rfl
      exact ⟨rfl, _, rfl, Or.inl ⟨rfl, c1, c9⟩⟩

set_option maxHeartbeats 4000000 in
set_option maxRecDepth 100000 in
theorem ht_hc_depth {l : Launch} {D : va_G} {tl : List (ClassId × FieldType)} {Z : (Nat → Prop) → State → Heap → Prop} {K : List Nat} {am : Nat → Nat} {ks : Nat → ClassId} {N : Nat → Nat} {S : gS} {k : Nat}  (h0 : 0 ∈ K) (n : Int32) (hn : S.1 0 11 = .int n) : MT (hc_π l D ks tl Z) (m_hc_depth k 0 0) 0 0 [.ref (am 0)] (gw K am ks N S) (fun r w => w = (gw K am ks N S) ∧ ∃ y, r = some (.int y) ∧ y = n) := by
  refine mt_of pl_hc rfl (Nat.le_of_ble_eq_true rfl) (ev_eq (lv' := [some (.ref (am 0))]) ?_)
  refine ev_aload_0 0 d_hc_depth_0 ?_
  refine gw_get 1 (0) 11 d_hc_depth_1 lk_hc_53 h0 rfl (.int n) hn ?_
  refine ev_iret 4 d_hc_depth_4 rfl ?_
  exact ⟨rfl, _, rfl, rfl⟩

def hb_len (b : Int32) : Int32 := if 128 ≤ b then (if b < 194 ∨ ¬ b ≤ 244 then -1 else if 224 ≤ b then (if 240 ≤ b then 4 else 3) else 2) else 1
def hb_bd (b k f1 v1 f2 v2 v3 : Int32) : Int32 := if k = 1 ∧ b = f1 then v1 else if k = 1 ∧ b = f2 then v2 else v3

set_option maxHeartbeats 4000000 in
set_option maxRecDepth 100000 in
theorem ht_re_lengthBehind {π : ev_P} {ws : va_W} {k : Nat} (b : Int32) : MT π (m_re_lengthBehind k 0 0) 0 0 [.int b] ws (fun r w => w = ws ∧ ∃ y, r = some (.int y) ∧ y = hb_len b) := by
  refine mt_of pl_re rfl (Nat.le_of_ble_eq_true rfl) (ev_eq (lv' := [some (.int b)]) ?_)
  refine ev_iload_0 0 d_re_lengthBehind_0 ?_
  refine ev_sipush (128) 1 d_re_lengthBehind_1 (by decide) ?_
  refine ev_icmpge 4 9 d_re_lengthBehind_4 (fun c4 => ?_) (fun c4 => ?_)
  · refine ev_iload_0 9 d_re_lengthBehind_9 ?_
    refine ev_sipush (194) 10 d_re_lengthBehind_10 (by decide) ?_
    refine ev_icmplt 13 23 d_re_lengthBehind_13 (fun c13 => ?_) (fun c13 => ?_)
    · refine ev_iconst_m1 23 d_re_lengthBehind_23 ?_
      refine ev_iret 24 d_re_lengthBehind_24 rfl ?_
      exact ⟨rfl, _, rfl, by rw [hb_len, if_pos c4, if_pos (Or.inl c13)]⟩
    · refine ev_iload_0 16 d_re_lengthBehind_16 ?_
      refine ev_sipush (244) 17 d_re_lengthBehind_17 (by decide) ?_
      refine ev_icmple 20 25 d_re_lengthBehind_20 (fun c20 => ?_) (fun c20 => ?_)
      · refine ev_iload_0 25 d_re_lengthBehind_25 ?_
        refine ev_sipush (224) 26 d_re_lengthBehind_26 (by decide) ?_
        refine ev_icmpge 29 36 d_re_lengthBehind_29 (fun c29 => ?_) (fun c29 => ?_)
        · refine ev_iload_0 36 d_re_lengthBehind_36 ?_
          refine ev_sipush (240) 37 d_re_lengthBehind_37 (by decide) ?_
          refine ev_icmpge 40 47 d_re_lengthBehind_40 (fun c40 => ?_) (fun c40 => ?_)
          · refine ev_iconst_4 47 d_re_lengthBehind_47 ?_
            refine ev_iret 48 d_re_lengthBehind_48 rfl ?_
            exact ⟨rfl, _, rfl, by rw [hb_len, if_pos c4, if_neg (show ¬ (b < 194 ∨ ¬ b ≤ 244) from fun z => z.elim c13 (fun y => y c20)), if_pos c29, if_pos c40]⟩
          · refine ev_iconst_3 43 d_re_lengthBehind_43 ?_
            refine ev_goto 44 48 d_re_lengthBehind_44 ?_
            refine ev_iret 48 d_re_lengthBehind_48 rfl ?_
            exact ⟨rfl, _, rfl, by rw [hb_len, if_pos c4, if_neg (show ¬ (b < 194 ∨ ¬ b ≤ 244) from fun z => z.elim c13 (fun y => y c20)), if_pos c29, if_neg c40]⟩
        · refine ev_iconst_2 32 d_re_lengthBehind_32 ?_
          refine ev_goto 33 48 d_re_lengthBehind_33 ?_
          refine ev_iret 48 d_re_lengthBehind_48 rfl ?_
          exact ⟨rfl, _, rfl, by rw [hb_len, if_pos c4, if_neg (show ¬ (b < 194 ∨ ¬ b ≤ 244) from fun z => z.elim c13 (fun y => y c20)), if_neg c29]⟩
      · refine ev_iconst_m1 23 d_re_lengthBehind_23 ?_
        refine ev_iret 24 d_re_lengthBehind_24 rfl ?_
        exact ⟨rfl, _, rfl, by rw [hb_len, if_pos c4, if_pos (Or.inr c20)]⟩
  · refine ev_iconst_1 7 d_re_lengthBehind_7 ?_
    refine ev_iret 8 d_re_lengthBehind_8 rfl ?_
    exact ⟨rfl, _, rfl, by rw [hb_len, if_neg c4]⟩

set_option maxHeartbeats 4000000 in
set_option maxRecDepth 100000 in
theorem ht_re_lowestBehind {π : ev_P} {ws : va_W} {k : Nat} (b : Int32) (k1 : Int32) : MT π (m_re_lowestBehind k 0 0) 0 0 [.int b, .int k1] ws (fun r w => w = ws ∧ ∃ y, r = some (.int y) ∧ y = hb_bd b k1 224 160 240 144 128) := by
  refine mt_of pl_re rfl (Nat.le_of_ble_eq_true rfl) (ev_eq (lv' := [some (.int b), some (.int k1)]) ?_)
  refine ev_iload_1 0 d_re_lowestBehind_0 ?_
  refine ev_iconst_1 1 d_re_lowestBehind_1 ?_
  refine ev_icmpne 2 16 d_re_lowestBehind_2 (fun c2 => ?_) (fun c2 => ?_)
  · refine ev_iload_1 16 d_re_lowestBehind_16 ?_
    refine ev_iconst_1 17 d_re_lowestBehind_17 ?_
    refine ev_icmpne 18 34 d_re_lowestBehind_18 (fun c18 => ?_) (fun c18 => ?_)
    · refine ev_sipush (128) 34 d_re_lowestBehind_34 (by decide) ?_
      refine ev_iret 37 d_re_lowestBehind_37 rfl ?_
      exact ⟨rfl, _, rfl, by rw [hb_bd, if_neg (fun z => c2 z.1), if_neg (fun z => c18 z.1)]⟩
    · refine ev_iload_0 21 d_re_lowestBehind_21 ?_
      refine ev_sipush (240) 22 d_re_lowestBehind_22 (by decide) ?_
      refine ev_icmpne 25 34 d_re_lowestBehind_25 (fun c25 => ?_) (fun c25 => ?_)
      · refine ev_sipush (128) 34 d_re_lowestBehind_34 (by decide) ?_
        refine ev_iret 37 d_re_lowestBehind_37 rfl ?_
        exact ⟨rfl, _, rfl, by rw [hb_bd, if_neg (fun z => c2 z.1), if_neg (fun z => c25 z.2)]⟩
      · refine ev_sipush (144) 28 d_re_lowestBehind_28 (by decide) ?_
        refine ev_goto 31 37 d_re_lowestBehind_31 ?_
        refine ev_iret 37 d_re_lowestBehind_37 rfl ?_
        exact ⟨rfl, _, rfl, by rw [hb_bd, if_neg (fun z => c2 z.1), if_pos ⟨c18, c25⟩]⟩
  · refine ev_iload_0 5 d_re_lowestBehind_5 ?_
    refine ev_sipush (224) 6 d_re_lowestBehind_6 (by decide) ?_
    refine ev_icmpne 9 16 d_re_lowestBehind_9 (fun c9 => ?_) (fun c9 => ?_)
    · refine ev_iload_1 16 d_re_lowestBehind_16 ?_
      refine ev_iconst_1 17 d_re_lowestBehind_17 ?_
      refine ev_icmpne 18 34 d_re_lowestBehind_18 (fun c18 => ?_) (fun c18 => ?_)
      · refine ev_sipush (128) 34 d_re_lowestBehind_34 (by decide) ?_
        refine ev_iret 37 d_re_lowestBehind_37 rfl ?_
        exact ⟨rfl, _, rfl, by rw [hb_bd, if_neg (fun z => c9 z.2), if_neg (fun z => c18 z.1)]⟩
      · refine ev_iload_0 21 d_re_lowestBehind_21 ?_
        refine ev_sipush (240) 22 d_re_lowestBehind_22 (by decide) ?_
        refine ev_icmpne 25 34 d_re_lowestBehind_25 (fun c25 => ?_) (fun c25 => ?_)
        · refine ev_sipush (128) 34 d_re_lowestBehind_34 (by decide) ?_
          refine ev_iret 37 d_re_lowestBehind_37 rfl ?_
          exact ⟨rfl, _, rfl, by rw [hb_bd, if_neg (fun z => c9 z.2), if_neg (fun z => c25 z.2)]⟩
        · refine ev_sipush (144) 28 d_re_lowestBehind_28 (by decide) ?_
          refine ev_goto 31 37 d_re_lowestBehind_31 ?_
          refine ev_iret 37 d_re_lowestBehind_37 rfl ?_
          exact ⟨rfl, _, rfl, by rw [hb_bd, if_neg (fun z => c9 z.2), if_pos ⟨c18, c25⟩]⟩
    · refine ev_sipush (160) 12 d_re_lowestBehind_12 (by decide) ?_
      refine ev_iret 15 d_re_lowestBehind_15 rfl ?_
      exact ⟨rfl, _, rfl, by rw [hb_bd, if_pos ⟨c2, c9⟩]⟩

set_option maxHeartbeats 4000000 in
set_option maxRecDepth 100000 in
theorem ht_re_highestBehind {π : ev_P} {ws : va_W} {k : Nat} (b : Int32) (k1 : Int32) : MT π (m_re_highestBehind k 0 0) 0 0 [.int b, .int k1] ws (fun r w => w = ws ∧ ∃ y, r = some (.int y) ∧ y = hb_bd b k1 237 159 244 143 191) := by
  refine mt_of pl_re rfl (Nat.le_of_ble_eq_true rfl) (ev_eq (lv' := [some (.int b), some (.int k1)]) ?_)
  refine ev_iload_1 0 d_re_highestBehind_0 ?_
  refine ev_iconst_1 1 d_re_highestBehind_1 ?_
  refine ev_icmpne 2 16 d_re_highestBehind_2 (fun c2 => ?_) (fun c2 => ?_)
  · refine ev_iload_1 16 d_re_highestBehind_16 ?_
    refine ev_iconst_1 17 d_re_highestBehind_17 ?_
    refine ev_icmpne 18 34 d_re_highestBehind_18 (fun c18 => ?_) (fun c18 => ?_)
    · refine ev_sipush (191) 34 d_re_highestBehind_34 (by decide) ?_
      refine ev_iret 37 d_re_highestBehind_37 rfl ?_
      exact ⟨rfl, _, rfl, by rw [hb_bd, if_neg (fun z => c2 z.1), if_neg (fun z => c18 z.1)]⟩
    · refine ev_iload_0 21 d_re_highestBehind_21 ?_
      refine ev_sipush (244) 22 d_re_highestBehind_22 (by decide) ?_
      refine ev_icmpne 25 34 d_re_highestBehind_25 (fun c25 => ?_) (fun c25 => ?_)
      · refine ev_sipush (191) 34 d_re_highestBehind_34 (by decide) ?_
        refine ev_iret 37 d_re_highestBehind_37 rfl ?_
        exact ⟨rfl, _, rfl, by rw [hb_bd, if_neg (fun z => c2 z.1), if_neg (fun z => c25 z.2)]⟩
      · refine ev_sipush (143) 28 d_re_highestBehind_28 (by decide) ?_
        refine ev_goto 31 37 d_re_highestBehind_31 ?_
        refine ev_iret 37 d_re_highestBehind_37 rfl ?_
        exact ⟨rfl, _, rfl, by rw [hb_bd, if_neg (fun z => c2 z.1), if_pos ⟨c18, c25⟩]⟩
  · refine ev_iload_0 5 d_re_highestBehind_5 ?_
    refine ev_sipush (237) 6 d_re_highestBehind_6 (by decide) ?_
    refine ev_icmpne 9 16 d_re_highestBehind_9 (fun c9 => ?_) (fun c9 => ?_)
    · refine ev_iload_1 16 d_re_highestBehind_16 ?_
      refine ev_iconst_1 17 d_re_highestBehind_17 ?_
      refine ev_icmpne 18 34 d_re_highestBehind_18 (fun c18 => ?_) (fun c18 => ?_)
      · refine ev_sipush (191) 34 d_re_highestBehind_34 (by decide) ?_
        refine ev_iret 37 d_re_highestBehind_37 rfl ?_
        exact ⟨rfl, _, rfl, by rw [hb_bd, if_neg (fun z => c9 z.2), if_neg (fun z => c18 z.1)]⟩
      · refine ev_iload_0 21 d_re_highestBehind_21 ?_
        refine ev_sipush (244) 22 d_re_highestBehind_22 (by decide) ?_
        refine ev_icmpne 25 34 d_re_highestBehind_25 (fun c25 => ?_) (fun c25 => ?_)
        · refine ev_sipush (191) 34 d_re_highestBehind_34 (by decide) ?_
          refine ev_iret 37 d_re_highestBehind_37 rfl ?_
          exact ⟨rfl, _, rfl, by rw [hb_bd, if_neg (fun z => c9 z.2), if_neg (fun z => c25 z.2)]⟩
        · refine ev_sipush (143) 28 d_re_highestBehind_28 (by decide) ?_
          refine ev_goto 31 37 d_re_highestBehind_31 ?_
          refine ev_iret 37 d_re_highestBehind_37 rfl ?_
          exact ⟨rfl, _, rfl, by rw [hb_bd, if_neg (fun z => c9 z.2), if_pos ⟨c18, c25⟩]⟩
    · refine ev_sipush (159) 12 d_re_highestBehind_12 (by decide) ?_
      refine ev_iret 15 d_re_highestBehind_15 rfl ?_
      exact ⟨rfl, _, rfl, by rw [hb_bd, if_pos ⟨c2, c9⟩]⟩
