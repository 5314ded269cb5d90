/-! the lesser and the greater of two, tables of numbers, new cells in the class's world -/
section EVm
variable {π : ev_P} {μ : ev_M} {E : ev_T} {cells slots : Nat} {lv : List (Option Value)} {st : List Value} {ws : va_W}
def ev_mw (own : String) (idx : Nat) (y : MethodName) (cc : ByteArray) : List Cond := [.methodLink own idx y, .static y, .initialized "java/lang/Math", .code y cc 2 (some .int)]
theorem ev_mmax {idx : Nat} {x y : Int32} (pc : Nat) (d : decode μ.2.1 pc = .ok (.invokestatic idx, 3)) (hw : ∀ w ∈ ev_mw μ.1.cls idx Lib.Math.max.name Lib.Math.max.code, w ∈ μ.2.2.2.2.1) (hf : 1 ≤ μ.2.2.2.2.2.frames) (hlo : (st.map fun v => v.category).sum + 13 ≤ μ.2.2.2.2.2.locals) (hc : cells ≤ μ.2.2.2.2.2.cells) (hs : slots ≤ μ.2.2.2.2.2.slots)
    (kk : EV π μ E cells slots (pc + 3) lv (.int (if x < y then y else x) :: st) ws) : EV π μ E cells slots pc lv (.int y :: .int x :: st) ws := by
  intro p e s m args below meth c H locs ls A X hl hK hZ hP hD hS hA
  have h1 := hw _ List.mem_cons_self
  have h2 := hw _ (List.mem_cons_of_mem _ List.mem_cons_self)
  have h3 := hw _ (List.mem_cons_of_mem _ (List.mem_cons_of_mem _ List.mem_cons_self))
  have h4 := hw _ (List.mem_cons_of_mem _ (List.mem_cons_of_mem _ (List.mem_cons_of_mem _ List.mem_cons_self)))
  exact va_mmax X.1 X.2.1 (X.2.2.1.trans hl.1.symm) X.2.2.2.1 (X.2.2.2.2.1 _ h1) (X.2.2.2.2.1 _ h2) (X.2.2.2.2.1 _ h3) (X.2.2.2.2.1 _ h4) hf hlo hc hs d (kk p e s m args below meth c H locs ls A X hl hK hZ hP hD hS hA)
theorem ev_mmin {idx : Nat} {x y : Int32} (pc : Nat) (d : decode μ.2.1 pc = .ok (.invokestatic idx, 3)) (hw : ∀ w ∈ ev_mw μ.1.cls idx Lib.Math.min.name Lib.Math.min.code, w ∈ μ.2.2.2.2.1) (hf : 1 ≤ μ.2.2.2.2.2.frames) (hlo : (st.map fun v => v.category).sum + 13 ≤ μ.2.2.2.2.2.locals) (hc : cells ≤ μ.2.2.2.2.2.cells) (hs : slots ≤ μ.2.2.2.2.2.slots)
    (kk : EV π μ E cells slots (pc + 3) lv (.int (if y < x then y else x) :: st) ws) : EV π μ E cells slots pc lv (.int y :: .int x :: st) ws := by
  intro p e s m args below meth c H locs ls A X hl hK hZ hP hD hS hA
  have h1 := hw _ List.mem_cons_self
  have h2 := hw _ (List.mem_cons_of_mem _ List.mem_cons_self)
  have h3 := hw _ (List.mem_cons_of_mem _ (List.mem_cons_of_mem _ List.mem_cons_self))
  have h4 := hw _ (List.mem_cons_of_mem _ (List.mem_cons_of_mem _ (List.mem_cons_of_mem _ List.mem_cons_self)))
  exact va_mmin X.1 X.2.1 (X.2.2.1.trans hl.1.symm) X.2.2.2.1 (X.2.2.2.2.1 _ h1) (X.2.2.2.2.1 _ h2) (X.2.2.2.2.1 _ h3) (X.2.2.2.2.1 _ h4) hf hlo hc hs d (kk p e s m args below meth c H locs ls A X hl hK hZ hP hD hS hA)
/-- a number out of a table that nothing changes -/
theorem ev_tild {t N : Nat} {f : Nat → Value} {i : Int32} {v : Value} (pc : Nat) (d : decode μ.2.1 pc = .ok (.iaload, 1)) (hT : ∀ (A : Nat → Prop) (s : State), π.2.2.2.2 A s s.heap → va_T .int t N f A s s.heap) (hin : vp_in i N) (hv : f i.toNatClampNeg = v)
    (kk : EV π μ E cells slots (pc + 1) lv (v :: st) ws) : EV π μ E cells slots pc lv (.int i :: .ref t :: st) ws :=
  fun p e s m args below meth c H locs ls A X hl hK hZ hP hD hS hA => va_ti X.1 X.2.1 (hT A s hZ) hS hin hv d (kk p e s m args below meth c H locs ls A X hl hK hZ hP hD hS hA)
end EVm
/-! new cells -/
def gsO (S : gS) (k : Nat) (f : Nat → Value) : gS := (va_up S.1 k f, S.2)
def gsAn (S : gS) (k : Nat) : gS := (S.1, va_up S.2.1 k (fun _ => 0), S.2.2)
def gsQn (S : gS) (k : Nat) : gS := (S.1, S.2.1, va_up S.2.2.1 k (fun _ => none), S.2.2.2)
def gsLn (S : gS) (k : Nat) : gS := (S.1, S.2.1, S.2.2.1, va_up S.2.2.2 k (fun _ => 0))
theorem gw_app {K : List Nat} {am : Nat → Nat} {ks : Nat → ClassId} {N N' : Nat → Nat} {S S' : gS} {k q : Nat} {x : va_E} (hk : k ∉ K) (hx : gce ks N' S' k = x) (hj : ∀ j, j ≠ k → gce ks N' S' j = gce ks N S j) : gw K am ks N S ++ [(q, x)] = gw (K ++ [k]) (va_up am k q) ks N' S' := by
  rw [gw, gw, List.map_append, List.map_cons, List.map_nil, va_up_self, hx]
  congr 1
  refine List.map_congr_left fun j hm => ?_
  have e : j ≠ k := fun z => hk (z ▸ hm)
  rw [va_up_ne _ _ e, hj j e]
theorem gO_D {n : Nat} {f : Nat → Value} : ∀ j, j < n → f j = vp_V ((List.range n).map f) j := by
  intro j hj
  rw [vp_V, List.getD_eq_getElem?_getD]
  simp [hj]
theorem nd_app {K : List Nat} {k : Nat} (h : va_nd K = true) (hk : k ∉ K) : va_nd (K ++ [k]) = true := by
  induction K with
  | nil => rfl
  | cons a K ih =>
    simp only [List.cons_append, va_nd, Bool.and_eq_true, decide_eq_true_eq] at h ⊢
    refine ⟨fun z => ?_, ih h.2 (fun z => hk (List.mem_cons_of_mem _ z))⟩
    rcases List.mem_append.mp z with z | z
    · exact h.1 z
    · rw [List.mem_singleton] at z
      exact hk (z ▸ List.mem_cons_self)
section GN
variable {l : Launch} {D : va_G} {tl : List (ClassId × FieldType)} {Z : (Nat → Prop) → State → Heap → Prop} {K : List Nat} {am : Nat → Nat} {ks : Nat → ClassId} {N : Nat → Nat} {S : gS} {μ : ev_M} {E : ev_T} {cells slots : Nat} {lv : List (Option Value)} {st : List Value}
theorem gw_newO {C : String} {T : u_T} {c idx : Nat} {ty : Nat → FieldType} (pc k : Nat) (d : decode μ.2.1 pc = .ok (.new idx, 3)) (hin : ∀ w ∈ u_ws C T (gnf c), w ∈ μ.2.2.2.2.1) (hty : ∀ k, k < gnf c → parseFieldDescriptor (T k).2.2.1 = some (ty k)) (hcl : Cond.classLink μ.1.cls idx C ∈ μ.2.2.2.2.1) (hinst : Cond.instantiable C (gnf c) ∈ μ.2.2.2.2.1) (hini : Cond.initialized C ∈ μ.2.2.2.2.1)
    (hc : cl_A[c]? = some (C, T, gnf c)) (hk : k ∉ K) (hg : gk k = c) (hcells : cells + 1 ≤ μ.2.2.2.2.2.cells) (hslots : slots + gnf c ≤ μ.2.2.2.2.2.slots)
    (kk : ∀ q : Nat, EV (hc_π l D ks tl Z) μ E (cells + 1) (slots + gnf c) (pc + 3) lv (.ref q :: st) (gw (K ++ [k]) (va_up am k q) ks N (gsO S k (fun j => defaultValue (ty j))))) (hc20 : c < 20 := by decide) : EV (hc_π l D ks tl Z) μ E cells slots pc lv st (gw K am ks N S) := by
  refine ev_new (fs := (List.range (gnf c)).map (fun j => defaultValue (ty j))) pc d hin hty hcl hinst hini hc (gO_D (f := fun j => defaultValue (ty j))) hcells hslots (fun q _ => ?_)
  refine ev_eq (kk q) (h3 := gw_app hk ?_ (fun j hj => ?_))
  · rw [gce_o hg hc20]
    show gob c (va_up S.1 k _ k) = _
    rw [va_up_self] <;> rfl
  · unfold gce gsO; dsimp only; rw [va_up_ne _ _ hj]
theorem gw_newI {n : Nat} (pc k : Nat) (d : decode μ.2.1 pc = .ok (.newarray .int, 2)) (harr : Cond.arrayClass .int ∈ μ.2.2.2.2.1) (hk : k ∉ K) (hg : gk k = 20) (hn : n ≤ 100000) (hcells : cells + 1 ≤ μ.2.2.2.2.2.cells) (hslots : slots + n ≤ μ.2.2.2.2.2.slots)
    (kk : ∀ q : Nat, EV (hc_π l D ks tl Z) μ E (cells + 1) (slots + n) (pc + 2) lv (.ref q :: st) (gw (K ++ [k]) (va_up am k q) ks (va_up N k n) (gsAn S k))) : EV (hc_π l D ks tl Z) μ E cells slots pc lv (.int (nI n) :: st) (gw K am ks N S) := by
  refine ev_newa (ty := .int) (kA := ks 0) (N' := n) (a0 := (n, .inl (fun _ => 0))) pc 0 d harr rfl rfl (fun cA => rfl) (nI_pos (by omega)) (nI_clamp (by omega)) (by show n * 4 ≤ _; omega) hcells hslots (fun q _ => ?_)
  refine ev_eq (kk q) (h3 := gw_app hk ?_ (fun j hj => ?_))
  · rw [gce_i hg, va_up_self]
    show gia ks n (va_up S.2.1 k _ k) = _
    rw [va_up_self] <;> rfl
  · unfold gce gsAn; dsimp only; rw [va_up_ne _ _ hj, va_up_ne _ _ hj]
theorem gw_newL {n : Nat} (pc k : Nat) (d : decode μ.2.1 pc = .ok (.newarray .long, 2)) (harr : Cond.arrayClass .long ∈ μ.2.2.2.2.1) (hk : k ∉ K) (hg : gk k = 25) (hn : n ≤ 100000) (hcells : cells + 1 ≤ μ.2.2.2.2.2.cells) (hslots : slots + n ≤ μ.2.2.2.2.2.slots)
    (kk : ∀ q : Nat, EV (hc_π l D ks tl Z) μ E (cells + 1) (slots + n) (pc + 2) lv (.ref q :: st) (gw (K ++ [k]) (va_up am k q) ks (va_up N k n) (gsLn S k))) : EV (hc_π l D ks tl Z) μ E cells slots pc lv (.int (nI n) :: st) (gw K am ks N S) := by
  refine ev_newa (ty := .long) (kA := ks 2) (N' := n) (a0 := (n, .inr (.inl (fun _ => 0)))) pc 2 d harr rfl rfl (fun cA => rfl) (nI_pos (by omega)) (nI_clamp (by omega)) (by show n * 8 ≤ _; omega) hcells hslots (fun q _ => ?_)
  refine ev_eq (kk q) (h3 := gw_app hk ?_ (fun j hj => ?_))
  · rw [gce_l hg, va_up_self]
    show gla ks n (va_up S.2.2.2 k _ k) = _
    rw [va_up_self] <;> rfl
  · unfold gce gsLn; dsimp only; rw [va_up_ne _ _ hj, va_up_ne _ _ hj]
def hc_AO (Z : (Nat → Prop) → State → Heap → Prop) : Prop := ∀ s : State, (∃ A, Z A s s.heap) → va_AO R_ty s ∧ va_AO R_in s ∧ va_AO R_fu s ∧ va_AO R_ha s
theorem gw_newQ {n c idx : Nat} (pc k : Nat) (d : decode μ.2.1 pc = .ok (.anewarray idx, 3)) (hcl : Cond.classLink μ.1.cls idx (gq_C c).1 ∈ μ.2.2.2.2.1) (hov : ∀ s : State, (∃ A, Z A s s.heap) → va_AO (gq_C c).1 s) (hk : k ∉ K) (hg : gk k = c) (hn : n ≤ 100000) (hcells : cells + 1 ≤ μ.2.2.2.2.2.cells) (hslots : slots + n ≤ μ.2.2.2.2.2.slots)
    (kk : ∀ q : Nat, EV (hc_π l D ks tl Z) μ E (cells + 1) (slots + n) (pc + 3) lv (.ref q :: st) (gw (K ++ [k]) (va_up am k q) ks (va_up N k n) (gsQn S k))) (h1 : 20 < c := by decide) (h2 : c < 25 := by decide) : EV (hc_π l D ks tl Z) μ E cells slots pc lv (.int (nI n) :: st) (gw K am ks N S) := by
  refine ev_newq (C := (gq_C c).1) (kA := ks (c - 18)) (N' := n) pc (c - 18) d hcl hov (gq_ty h1 h2) (nI_pos (by omega)) (nI_clamp (by omega)) (by omega) hcells hslots (fun q _ => ?_)
  refine ev_eq (kk q) (h3 := gw_app hk ?_ (fun j hj => ?_))
  · rw [gce_q hg h1 h2, va_up_self]
    show gqa ks c n (va_up S.2.2.1 k _ k) = _
    rw [va_up_self] <;> rfl
  · unfold gce gsQn; dsimp only; rw [va_up_ne _ _ hj, va_up_ne _ _ hj]
/-- keys that aren't spoken of any more -/
theorem gw_drop {pc : Nat} (K' : List Nat) (k : EV (hc_π l D ks tl Z) μ E cells slots pc lv st (gw K am ks N S)) : EV (hc_π l D ks tl Z) μ E cells slots pc lv st (gw (K ++ K') am ks N S) := by
  refine ev_sub (fun i => i) (fun i q hi => ?_) (fun i j _ _ e => e) k
  have e : gw (K ++ K') am ks N S = gw K am ks N S ++ gw K' am ks N S := by unfold gw; rw [List.map_append]
  rw [e, List.getElem?_append_left (List.getElem?_eq_some_iff.mp hi).1]
  exact hi
/-- addresses, lengths and cells count at the living keys alone -/
theorem gw_congr {am' : Nat → Nat} {N' : Nat → Nat} {S' : gS} (h : ∀ k, k ∈ K → am' k = am k ∧ gce ks N' S' k = gce ks N S k) : gw K am' ks N' S' = gw K am ks N S := by
  unfold gw
  exact List.map_congr_left fun k hk => by rw [(h k hk).1, (h k hk).2]
end GN
