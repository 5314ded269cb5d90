section
/-! EV: the kit's W with its context hidden. A goal 'EV π μ E cells slots pc lv st ws' speaks of one method's frame alone: pc, locals lv (a place a local), stack st, world ws. MT: a method's contract over a world. -/
abbrev ev_P : Type := Launch × va_G × List vw_C × List (ClassId × FieldType) × ((Nat → Prop) → State → Heap → Prop)
abbrev ev_M : Type := MethodName × ByteArray × Nat × Option FieldType × List Cond × Room
abbrev ev_T : Type := List Frame → Array Value → State → (Nat → Prop) → State → Prop
def ev_C (p : Program) (s : State) (m : MethodId) (args : Array Value) (meth : Method) (c : Code) (μ : ev_M) : Prop :=
  p.tables.exec = Jvm.exec ∧ c.code = μ.2.1 ∧ c.maxLocals = μ.2.2.1 ∧ s.vm.findClass μ.1.cls = some m.cls ∧ (∀ w ∈ μ.2.2.2.2.1, w.before args s = true) ∧ meth.locks = false ∧ meth.sig.returnType = μ.2.2.2.1 ∧ meth.name = μ.1.name
def ev_ls (ls : Array Slot) (nL : Nat) (lv : List (Option Value)) : Prop := ls.size = nL ∧ lv_wf ls ∧ ∀ (i : Nat) (v : Value), lv[i]? = some (some v) → ls[i]? = some (.val v)
def EV (π : ev_P) (μ : ev_M) (E : ev_T) (cells slots pc : Nat) (lv : List (Option Value)) (st : List Value) (ws : va_W) : Prop :=
  ∀ (p : Program) (e : Env) (s : State) (m : MethodId) (args : Array Value) (below : List Frame) (meth : Method) (c : Code) (H : Heap) (locs : List Loc) (ls : Array Slot) (A : Nat → Prop),
    ev_C p s m args meth c μ → ev_ls ls μ.2.2.1 lv → va_K π.2.1 π.2.2.1 π.2.2.2.1 s → π.2.2.2.2 A s s.heap → va_P π.2.1 π.2.2.1 ws H → va_D A ws → va_S A s.heap H locs → (∀ q : Nat, s.heap.size ≤ q → A q) →
    W p π.1 e μ.2.2.2.2.2 s m args below meth c H locs cells slots (E below args s A) (F0 m pc ls st)
/-- the pairs that the places of lv stand for -/
def ev_prs : Nat → List (Option Value) → List (Nat × Value)
  | _, [] => []
  | i, none :: r => ev_prs (i + 1) r
  | i, some v :: r => (i, v) :: ev_prs (i + 1) r
theorem ev_prs_mem : ∀ (lv : List (Option Value)) (b j : Nat) (w : Value), (j, w) ∈ ev_prs b lv ↔ b ≤ j ∧ lv[j - b]? = some (some w) := by
  intro lv
  induction lv with
  | nil => intro b j w; simp [ev_prs]
  | cons x r ih =>
    intro b j w
    cases x with
    | none =>
      rw [ev_prs, ih]
      constructor
      · rintro ⟨h1, h2⟩
        refine ⟨by omega, ?_⟩
        rw [show j - b = (j - (b + 1)) + 1 by omega, List.getElem?_cons_succ]
        exact h2
      · rintro ⟨h1, h2⟩
        rcases Nat.eq_or_lt_of_le h1 with h | h
        · subst h
          rw [Nat.sub_self] at h2
          simp at h2
        · refine ⟨h, ?_⟩
          rw [show j - b = (j - (b + 1)) + 1 by omega, List.getElem?_cons_succ] at h2
          exact h2
    | some v =>
      rw [ev_prs, List.mem_cons, ih]
      constructor
      · rintro (h | ⟨h1, h2⟩)
        · obtain ⟨rfl, rfl⟩ := Prod.mk.inj h
          exact ⟨Nat.le_refl _, by rw [Nat.sub_self]; rfl⟩
        · refine ⟨by omega, ?_⟩
          rw [show j - b = (j - (b + 1)) + 1 by omega, List.getElem?_cons_succ]
          exact h2
      · rintro ⟨h1, h2⟩
        rcases Nat.eq_or_lt_of_le h1 with h | h
        · subst h
          rw [Nat.sub_self] at h2
          simp at h2
          exact Or.inl (by rw [h2])
        · refine Or.inr ⟨h, ?_⟩
          rw [show j - b = (j - (b + 1)) + 1 by omega, List.getElem?_cons_succ] at h2
          exact h2
theorem ev_prs_in {lv : List (Option Value)} {j : Nat} {w : Value} : (j, w) ∈ ev_prs 0 lv ↔ lv[j]? = some (some w) := by
  rw [ev_prs_mem]
  simp
theorem ev_ls.has {ls : Array Slot} {nL : Nat} {lv : List (Option Value)} (h : ev_ls ls nL lv) : lv_has ls nL (ev_prs 0 lv) :=
  ⟨h.1, h.2.1, fun q hq => h.2.2 q.1 q.2 (ev_prs_in.mp hq)⟩
/-- no long begins just ahead of the place i -/
def ev_b1 (lv : List (Option Value)) : Nat → Bool
  | 0 => true
  | j + 1 => match lv[j]? with
    | some (some v) => v.category == 1
    | _ => true
theorem ev_b1_ne {lv : List (Option Value)} {j : Nat} {w : Value} (h : ev_b1 lv (j + 1) = true) (hj : lv[j]? = some (some w)) : w.category = 1 := by
  simp only [ev_b1, hj] at h
  exact of_decide_eq_true h
theorem ev_ls.set {ls : Array Slot} {nL i : Nat} {lv : List (Option Value)} {l : List (Nat × Value)} {v : Value} (h : lv_has ls nL ((i, v) :: l.filter (fun q => !(q.1 == i) && !(q.1 + 1 == i && q.2.category == 2)))) (hl : ∀ q ∈ ev_prs 0 lv, q ∈ l) (hb : ev_b1 lv i = true) : ev_ls ls nL (lv.set i (some v)) := by
  refine ⟨h.1, h.2.1, fun j w hj => ?_⟩
  by_cases e : i = j
  · subst e
    rw [List.getElem?_set] at hj
    simp at hj
    have := h.2.2 (i, v) List.mem_cons_self
    rw [← hj.2]
    exact this
  · rw [List.getElem?_set_ne e] at hj
    refine h.2.2 (j, w) (List.mem_cons_of_mem _ (List.mem_filter.mpr ⟨hl _ (ev_prs_in.mpr hj), ?_⟩))
    have h1 : (j == i) = false := by simpa using fun z => e z.symm
    by_cases e2 : j + 1 = i
    · subst e2
      have := ev_b1_ne hb hj
      simp [this]
    · have h2 : (j + 1 == i) = false := by simpa using e2
      simp [h1, h2]
section EVr
variable {π : ev_P} {μ : ev_M} {E : ev_T} {cells slots : Nat} {lv : List (Option Value)} {st : List Value} {ws : va_W}
theorem ev_go {pc pc' : Nat} {st st' : List Value} (k : EV π μ E cells slots pc' lv st' ws)
    (h : ∀ {p : Program} {e : Env} {s : State} {m : MethodId} {args : Array Value} {below : List Frame} {meth : Method} {c : Code} {H : Heap} {locs : List Loc} {ls : Array Slot} {Q : State → Prop}, p.tables.exec = Jvm.exec → c.code = μ.2.1 → W p π.1 e μ.2.2.2.2.2 s m args below meth c H locs cells slots Q (F0 m pc' ls st') → W p π.1 e μ.2.2.2.2.2 s m args below meth c H locs cells slots Q (F0 m pc ls st)) : EV π μ E cells slots pc lv st ws :=
  fun p e s m args below meth c H locs ls A C hl hK hZ hP hD hS hA => h C.1 C.2.1 (k p e s m args below meth c H locs ls A C hl hK hZ hP hD hS hA)
theorem ev_br {pc p1 p2 : Nat} {st st' : List Value} {a b : Prop} (k1 : a → EV π μ E cells slots p1 lv st' ws) (k2 : b → EV π μ E cells slots p2 lv st' ws)
    (h : ∀ {p : Program} {e : Env} {s : State} {m : MethodId} {args : Array Value} {below : List Frame} {meth : Method} {c : Code} {H : Heap} {locs : List Loc} {ls : Array Slot} {Q : State → Prop}, p.tables.exec = Jvm.exec → c.code = μ.2.1 → (a → W p π.1 e μ.2.2.2.2.2 s m args below meth c H locs cells slots Q (F0 m p1 ls st')) → (b → W p π.1 e μ.2.2.2.2.2 s m args below meth c H locs cells slots Q (F0 m p2 ls st')) → W p π.1 e μ.2.2.2.2.2 s m args below meth c H locs cells slots Q (F0 m pc ls st)) : EV π μ E cells slots pc lv st ws :=
  fun p e s m args below meth c H locs ls A C hl hK hZ hP hD hS hA => h C.1 C.2.1 (fun z => k1 z p e s m args below meth c H locs ls A C hl hK hZ hP hD hS hA) (fun z => k2 z p e s m args below meth c H locs ls A C hl hK hZ hP hD hS hA)
theorem ev_ld {pc pc' i : Nat} {v : Value} {st st' : List Value} (hv : lv[i]? = some (some v)) (k : EV π μ E cells slots pc' lv st' ws)
    (h : ∀ {p : Program} {e : Env} {s : State} {m : MethodId} {args : Array Value} {below : List Frame} {meth : Method} {c : Code} {H : Heap} {locs : List Loc} {ls : Array Slot} {Q : State → Prop}, p.tables.exec = Jvm.exec → c.code = μ.2.1 → ls[i]? = some (.val v) → W p π.1 e μ.2.2.2.2.2 s m args below meth c H locs cells slots Q (F0 m pc' ls st') → W p π.1 e μ.2.2.2.2.2 s m args below meth c H locs cells slots Q (F0 m pc ls st)) : EV π μ E cells slots pc lv st ws :=
  fun p e s m args below meth c H locs ls A C hl hK hZ hP hD hS hA => h C.1 C.2.1 (hl.2.2 i v hv) (k p e s m args below meth c H locs ls A C hl hK hZ hP hD hS hA)
/-- a state that is the same -/
theorem ev_eq {pc : Nat} {lv' : List (Option Value)} {st' : List Value} {ws' : va_W} (k : EV π μ E cells slots pc lv' st' ws') (h1 : lv = lv' := by rfl) (h2 : st = st' := by rfl) (h3 : ws = ws' := by rfl) : EV π μ E cells slots pc lv st ws := by
  subst h1; subst h2; subst h3; exact k
theorem ev_wd {pc k n : Nat} (h1 : cells ≤ k) (h2 : slots ≤ n) (kk : EV π μ E k n pc lv st ws) : EV π μ E cells slots pc lv st ws :=
  fun p e s m args below meth c H locs ls A C hl hK hZ hP hD hS hA => W.widen h1 h2 (kk p e s m args below meth c H locs ls A C hl hK hZ hP hD hS hA)

theorem ev_iconst_m1 (pc : Nat) (d : decode μ.2.1 pc = .ok (.iconst (-1), 1)) (k : EV π μ E cells slots (pc + 1) lv (.int (-1) :: st) ws) : EV π μ E cells slots pc lv st ws := ev_go k (fun hx hb w => lv_iconst hx hb d (by decide) w)
theorem ev_iconst_0 (pc : Nat) (d : decode μ.2.1 pc = .ok (.iconst (0), 1)) (k : EV π μ E cells slots (pc + 1) lv (.int (0) :: st) ws) : EV π μ E cells slots pc lv st ws := ev_go k (fun hx hb w => lv_iconst hx hb d (by decide) w)
theorem ev_iconst_1 (pc : Nat) (d : decode μ.2.1 pc = .ok (.iconst (1), 1)) (k : EV π μ E cells slots (pc + 1) lv (.int (1) :: st) ws) : EV π μ E cells slots pc lv st ws := ev_go k (fun hx hb w => lv_iconst hx hb d (by decide) w)
theorem ev_iconst_2 (pc : Nat) (d : decode μ.2.1 pc = .ok (.iconst (2), 1)) (k : EV π μ E cells slots (pc + 1) lv (.int (2) :: st) ws) : EV π μ E cells slots pc lv st ws := ev_go k (fun hx hb w => lv_iconst hx hb d (by decide) w)
theorem ev_iconst_3 (pc : Nat) (d : decode μ.2.1 pc = .ok (.iconst (3), 1)) (k : EV π μ E cells slots (pc + 1) lv (.int (3) :: st) ws) : EV π μ E cells slots pc lv st ws := ev_go k (fun hx hb w => lv_iconst hx hb d (by decide) w)
theorem ev_iconst_4 (pc : Nat) (d : decode μ.2.1 pc = .ok (.iconst (4), 1)) (k : EV π μ E cells slots (pc + 1) lv (.int (4) :: st) ws) : EV π μ E cells slots pc lv st ws := ev_go k (fun hx hb w => lv_iconst hx hb d (by decide) w)
theorem ev_iconst_5 (pc : Nat) (d : decode μ.2.1 pc = .ok (.iconst (5), 1)) (k : EV π μ E cells slots (pc + 1) lv (.int (5) :: st) ws) : EV π μ E cells slots pc lv st ws := ev_go k (fun hx hb w => lv_iconst hx hb d (by decide) w)
theorem ev_bipush (v : Int32) {n : Int} (pc : Nat) (d : decode μ.2.1 pc = .ok (.bipush n, 2)) (hv : (Int8.ofInt n).toInt32 = v) (k : EV π μ E cells slots (pc + 2) lv (.int v :: st) ws) : EV π μ E cells slots pc lv st ws := ev_go k (fun hx hb w => lv_bipush hx hb d hv w)
theorem ev_sipush (v : Int32) {n : Int} (pc : Nat) (d : decode μ.2.1 pc = .ok (.sipush n, 3)) (hv : (Int16.ofInt n).toInt32 = v) (k : EV π μ E cells slots (pc + 3) lv (.int v :: st) ws) : EV π μ E cells slots pc lv st ws := ev_go k (fun hx hb w => lv_sipush hx hb d hv w)
theorem ev_lconst_0 (pc : Nat) (d : decode μ.2.1 pc = .ok (.lconst 0, 1)) (k : EV π μ E cells slots (pc + 1) lv (.long 0 :: st) ws) : EV π μ E cells slots pc lv st ws := ev_go k (fun hx hb w => lv_lconst hx hb d (by decide) w)
theorem ev_lconst_1 (pc : Nat) (d : decode μ.2.1 pc = .ok (.lconst 1, 1)) (k : EV π μ E cells slots (pc + 1) lv (.long 1 :: st) ws) : EV π μ E cells slots pc lv st ws := ev_go k (fun hx hb w => lv_lconst hx hb d (by decide) w)
theorem ev_iadd {x y : Int32} (pc : Nat) (d : decode μ.2.1 pc = .ok (.iadd, 1)) (k : EV π μ E cells slots (pc + 1) lv (.int (x + y) :: st) ws) : EV π μ E cells slots pc lv (.int y :: .int x :: st) ws := ev_go k (fun hx hb w => lv_iadd hx hb d w)
theorem ev_isub {x y : Int32} (pc : Nat) (d : decode μ.2.1 pc = .ok (.isub, 1)) (k : EV π μ E cells slots (pc + 1) lv (.int (x - y) :: st) ws) : EV π μ E cells slots pc lv (.int y :: .int x :: st) ws := ev_go k (fun hx hb w => lv_isub hx hb d w)
theorem ev_imul {x y : Int32} (pc : Nat) (d : decode μ.2.1 pc = .ok (.imul, 1)) (k : EV π μ E cells slots (pc + 1) lv (.int (x * y) :: st) ws) : EV π μ E cells slots pc lv (.int y :: .int x :: st) ws := ev_go k (fun hx hb w => lv_imul hx hb d w)
theorem ev_iand {x y : Int32} (pc : Nat) (d : decode μ.2.1 pc = .ok (.iand, 1)) (k : EV π μ E cells slots (pc + 1) lv (.int (x &&& y) :: st) ws) : EV π μ E cells slots pc lv (.int y :: .int x :: st) ws := ev_go k (fun hx hb w => lv_iand hx hb d w)
theorem ev_ior {x y : Int32} (pc : Nat) (d : decode μ.2.1 pc = .ok (.ior, 1)) (k : EV π μ E cells slots (pc + 1) lv (.int (x ||| y) :: st) ws) : EV π μ E cells slots pc lv (.int y :: .int x :: st) ws := ev_go k (fun hx hb w => lv_ior hx hb d w)
theorem ev_ixor {x y : Int32} (pc : Nat) (d : decode μ.2.1 pc = .ok (.ixor, 1)) (k : EV π μ E cells slots (pc + 1) lv (.int (x ^^^ y) :: st) ws) : EV π μ E cells slots pc lv (.int y :: .int x :: st) ws := ev_go k (fun hx hb w => lv_ixor hx hb d w)
theorem ev_ishl {x y : Int32} (pc : Nat) (d : decode μ.2.1 pc = .ok (.ishl, 1)) (k : EV π μ E cells slots (pc + 1) lv (.int (x <<< (y &&& 31)) :: st) ws) : EV π μ E cells slots pc lv (.int y :: .int x :: st) ws := ev_go k (fun hx hb w => lv_ishl hx hb d w)
theorem ev_ishr {x y : Int32} (pc : Nat) (d : decode μ.2.1 pc = .ok (.ishr, 1)) (k : EV π μ E cells slots (pc + 1) lv (.int (x >>> (y &&& 31)) :: st) ws) : EV π μ E cells slots pc lv (.int y :: .int x :: st) ws := ev_go k (fun hx hb w => lv_ishr hx hb d w)
theorem ev_idiv {x y : Int32} (pc : Nat) (d : decode μ.2.1 pc = .ok (.idiv, 1)) (hn : ¬ y = 0) (k : EV π μ E cells slots (pc + 1) lv (.int (x / y) :: st) ws) : EV π μ E cells slots pc lv (.int y :: .int x :: st) ws := ev_go k (fun hx hb w => lv_idiv hx hb d hn w)
theorem ev_irem {x y : Int32} (pc : Nat) (d : decode μ.2.1 pc = .ok (.irem, 1)) (hn : ¬ y = 0) (k : EV π μ E cells slots (pc + 1) lv (.int (x - x / y * y) :: st) ws) : EV π μ E cells slots pc lv (.int y :: .int x :: st) ws := ev_go k (fun hx hb w => lv_irem hx hb d hn w)
theorem ev_ineg {x : Int32} (pc : Nat) (d : decode μ.2.1 pc = .ok (.ineg, 1)) (k : EV π μ E cells slots (pc + 1) lv (.int (-x) :: st) ws) : EV π μ E cells slots pc lv (.int x :: st) ws := ev_go k (fun hx hb w => lv_ineg hx hb d w)
theorem ev_land {x y : Int64} (pc : Nat) (d : decode μ.2.1 pc = .ok (.land, 1)) (k : EV π μ E cells slots (pc + 1) lv (.long (x &&& y) :: st) ws) : EV π μ E cells slots pc lv (.long y :: .long x :: st) ws := ev_go k (fun hx hb w => lv_land hx hb d w)
theorem ev_lor {x y : Int64} (pc : Nat) (d : decode μ.2.1 pc = .ok (.lor, 1)) (k : EV π μ E cells slots (pc + 1) lv (.long (x ||| y) :: st) ws) : EV π μ E cells slots pc lv (.long y :: .long x :: st) ws := ev_go k (fun hx hb w => lv_lor hx hb d w)
theorem ev_lcmp {x y : Int64} (pc : Nat) (d : decode μ.2.1 pc = .ok (.lcmp, 1)) (k : EV π μ E cells slots (pc + 1) lv (.int (lg_cmp x y) :: st) ws) : EV π μ E cells slots pc lv (.long y :: .long x :: st) ws := ev_go k (fun hx hb w => W.lcmp hx hb d w)
theorem ev_lushr {x : Int64} {y : Int32} (pc : Nat) (d : decode μ.2.1 pc = .ok (.lushr, 1)) (k : EV π μ E cells slots (pc + 1) lv (.long (x.toUInt64 >>> (y.toInt64.toUInt64 &&& Int64.toUInt64 63)).toInt64 :: st) ws) : EV π μ E cells slots pc lv (.int y :: .long x :: st) ws := ev_go k (fun hx hb w => lv_lushr hx hb d rfl w)
theorem ev_lshl {x : Int64} {y : Int32} (pc : Nat) (d : decode μ.2.1 pc = .ok (.lshl, 1)) (k : EV π μ E cells slots (pc + 1) lv (.long (x <<< (y.toInt64 &&& 63)) :: st) ws) : EV π μ E cells slots pc lv (.int y :: .long x :: st) ws := ev_go k (fun hx hb w => lv_lshl hx hb d rfl w)
theorem ev_i2l {x : Int32} (pc : Nat) (d : decode μ.2.1 pc = .ok (.i2l, 1)) (k : EV π μ E cells slots (pc + 1) lv (.long x.toInt64 :: st) ws) : EV π μ E cells slots pc lv (.int x :: st) ws := ev_go k (fun hx hb w => lv_i2l hx hb d rfl w)
theorem ev_l2i {x : Int64} (pc : Nat) (d : decode μ.2.1 pc = .ok (.l2i, 1)) (k : EV π μ E cells slots (pc + 1) lv (.int x.toInt32 :: st) ws) : EV π μ E cells slots pc lv (.long x :: st) ws := ev_go k (fun hx hb w => lv_l2i hx hb d rfl w)
theorem ev_dup_i {x : Int32} (pc : Nat) (d : decode μ.2.1 pc = .ok (.dup, 1)) (k : EV π μ E cells slots (pc + 1) lv (.int x :: .int x :: st) ws) : EV π μ E cells slots pc lv (.int x :: st) ws := ev_go k (fun hx hb w => lv_dup hx hb d rfl w)
theorem ev_pop_i {x : Int32} (pc : Nat) (d : decode μ.2.1 pc = .ok (.pop, 1)) (k : EV π μ E cells slots (pc + 1) lv st ws) : EV π μ E cells slots pc lv (.int x :: st) ws := ev_go k (fun hx hb w => lv_pop hx hb d rfl w)
theorem ev_dup_a {x : Nat} (pc : Nat) (d : decode μ.2.1 pc = .ok (.dup, 1)) (k : EV π μ E cells slots (pc + 1) lv (.ref x :: .ref x :: st) ws) : EV π μ E cells slots pc lv (.ref x :: st) ws := ev_go k (fun hx hb w => lv_dup hx hb d rfl w)
theorem ev_pop_a {x : Nat} (pc : Nat) (d : decode μ.2.1 pc = .ok (.pop, 1)) (k : EV π μ E cells slots (pc + 1) lv st ws) : EV π μ E cells slots pc lv (.ref x :: st) ws := ev_go k (fun hx hb w => lv_pop hx hb d rfl w)
theorem ev_dup2 {x : Int32} {y : Nat} (pc : Nat) (d : decode μ.2.1 pc = .ok (.dup2, 1)) (k : EV π μ E cells slots (pc + 1) lv (.int x :: .ref y :: .int x :: .ref y :: st) ws) : EV π μ E cells slots pc lv (.int x :: .ref y :: st) ws := ev_go k (fun hx hb w => lv_dup2_11 hx hb d rfl rfl w)
theorem ev_null (pc : Nat) (d : decode μ.2.1 pc = .ok (.aconst_null, 1)) (k : EV π μ E cells slots (pc + 1) lv (.null :: st) ws) : EV π μ E cells slots pc lv st ws := ev_go k (fun hx hb w => lv_null hx hb d w)
theorem ev_goto {off : Int} (pc tgt : Nat) (d : decode μ.2.1 pc = .ok (.goto off, 3)) (k : EV π μ E cells slots tgt lv st ws) (ht : (pc : Int) + off = (tgt : Int) := by decide) : EV π μ E cells slots pc lv st ws := ev_go k (fun hx hb w => lv_goto hx hb d ht w)
theorem ev_ifeq {x : Int32} {off : Int} (pc tgt : Nat) (d : decode μ.2.1 pc = .ok (.ifCond .eq off, 3)) (kt : x = 0 → EV π μ E cells slots tgt lv st ws) (kf : ¬ x = 0 → EV π μ E cells slots (pc + 3) lv st ws) (ht : (pc : Int) + off = (tgt : Int) := by decide) : EV π μ E cells slots pc lv (.int x :: st) ws := ev_br kt kf (fun hx hb w1 w2 => lv_if_eq hx hb d ht w1 w2)
theorem ev_ifne {x : Int32} {off : Int} (pc tgt : Nat) (d : decode μ.2.1 pc = .ok (.ifCond .ne off, 3)) (kt : ¬ x = 0 → EV π μ E cells slots tgt lv st ws) (kf : x = 0 → EV π μ E cells slots (pc + 3) lv st ws) (ht : (pc : Int) + off = (tgt : Int) := by decide) : EV π μ E cells slots pc lv (.int x :: st) ws := ev_br kt kf (fun hx hb w1 w2 => lv_if_ne hx hb d ht w1 w2)
theorem ev_iflt {x : Int32} {off : Int} (pc tgt : Nat) (d : decode μ.2.1 pc = .ok (.ifCond .lt off, 3)) (kt : x < 0 → EV π μ E cells slots tgt lv st ws) (kf : ¬ x < 0 → EV π μ E cells slots (pc + 3) lv st ws) (ht : (pc : Int) + off = (tgt : Int) := by decide) : EV π μ E cells slots pc lv (.int x :: st) ws := ev_br kt kf (fun hx hb w1 w2 => lv_if_lt hx hb d ht w1 w2)
theorem ev_ifge {x : Int32} {off : Int} (pc tgt : Nat) (d : decode μ.2.1 pc = .ok (.ifCond .ge off, 3)) (kt : 0 ≤ x → EV π μ E cells slots tgt lv st ws) (kf : ¬ 0 ≤ x → EV π μ E cells slots (pc + 3) lv st ws) (ht : (pc : Int) + off = (tgt : Int) := by decide) : EV π μ E cells slots pc lv (.int x :: st) ws := ev_br kt kf (fun hx hb w1 w2 => lv_if_ge hx hb d ht w1 w2)
theorem ev_ifgt {x : Int32} {off : Int} (pc tgt : Nat) (d : decode μ.2.1 pc = .ok (.ifCond .gt off, 3)) (kt : 0 < x → EV π μ E cells slots tgt lv st ws) (kf : ¬ 0 < x → EV π μ E cells slots (pc + 3) lv st ws) (ht : (pc : Int) + off = (tgt : Int) := by decide) : EV π μ E cells slots pc lv (.int x :: st) ws := ev_br kt kf (fun hx hb w1 w2 => lv_if_gt hx hb d ht w1 w2)
theorem ev_ifle {x : Int32} {off : Int} (pc tgt : Nat) (d : decode μ.2.1 pc = .ok (.ifCond .le off, 3)) (kt : x ≤ 0 → EV π μ E cells slots tgt lv st ws) (kf : ¬ x ≤ 0 → EV π μ E cells slots (pc + 3) lv st ws) (ht : (pc : Int) + off = (tgt : Int) := by decide) : EV π μ E cells slots pc lv (.int x :: st) ws := ev_br kt kf (fun hx hb w1 w2 => lv_if_le hx hb d ht w1 w2)
theorem ev_icmpeq {x y : Int32} {off : Int} (pc tgt : Nat) (d : decode μ.2.1 pc = .ok (.if_icmp .eq off, 3)) (kt : x = y → EV π μ E cells slots tgt lv st ws) (kf : ¬ x = y → EV π μ E cells slots (pc + 3) lv st ws) (ht : (pc : Int) + off = (tgt : Int) := by decide) : EV π μ E cells slots pc lv (.int y :: .int x :: st) ws := ev_br kt kf (fun hx hb w1 w2 => lv_icmp_eq hx hb d ht w1 w2)
theorem ev_icmpne {x y : Int32} {off : Int} (pc tgt : Nat) (d : decode μ.2.1 pc = .ok (.if_icmp .ne off, 3)) (kt : ¬ x = y → EV π μ E cells slots tgt lv st ws) (kf : x = y → EV π μ E cells slots (pc + 3) lv st ws) (ht : (pc : Int) + off = (tgt : Int) := by decide) : EV π μ E cells slots pc lv (.int y :: .int x :: st) ws := ev_br kt kf (fun hx hb w1 w2 => lv_icmp_ne hx hb d ht w1 w2)
theorem ev_icmplt {x y : Int32} {off : Int} (pc tgt : Nat) (d : decode μ.2.1 pc = .ok (.if_icmp .lt off, 3)) (kt : x < y → EV π μ E cells slots tgt lv st ws) (kf : ¬ x < y → EV π μ E cells slots (pc + 3) lv st ws) (ht : (pc : Int) + off = (tgt : Int) := by decide) : EV π μ E cells slots pc lv (.int y :: .int x :: st) ws := ev_br kt kf (fun hx hb w1 w2 => lv_icmp_lt hx hb d ht w1 w2)
theorem ev_icmpge {x y : Int32} {off : Int} (pc tgt : Nat) (d : decode μ.2.1 pc = .ok (.if_icmp .ge off, 3)) (kt : y ≤ x → EV π μ E cells slots tgt lv st ws) (kf : ¬ y ≤ x → EV π μ E cells slots (pc + 3) lv st ws) (ht : (pc : Int) + off = (tgt : Int) := by decide) : EV π μ E cells slots pc lv (.int y :: .int x :: st) ws := ev_br kt kf (fun hx hb w1 w2 => lv_icmp_ge hx hb d ht w1 w2)
theorem ev_icmpgt {x y : Int32} {off : Int} (pc tgt : Nat) (d : decode μ.2.1 pc = .ok (.if_icmp .gt off, 3)) (kt : y < x → EV π μ E cells slots tgt lv st ws) (kf : ¬ y < x → EV π μ E cells slots (pc + 3) lv st ws) (ht : (pc : Int) + off = (tgt : Int) := by decide) : EV π μ E cells slots pc lv (.int y :: .int x :: st) ws := ev_br kt kf (fun hx hb w1 w2 => lv_icmp_gt hx hb d ht w1 w2)
theorem ev_icmple {x y : Int32} {off : Int} (pc tgt : Nat) (d : decode μ.2.1 pc = .ok (.if_icmp .le off, 3)) (kt : x ≤ y → EV π μ E cells slots tgt lv st ws) (kf : ¬ x ≤ y → EV π μ E cells slots (pc + 3) lv st ws) (ht : (pc : Int) + off = (tgt : Int) := by decide) : EV π μ E cells slots pc lv (.int y :: .int x :: st) ws := ev_br kt kf (fun hx hb w1 w2 => lv_icmp_le hx hb d ht w1 w2)
theorem ev_acmpeq {x y : Option Nat} {off : Int} (pc tgt : Nat) (d : decode μ.2.1 pc = .ok (.if_acmp .eq off, 3)) (kt : x = y → EV π μ E cells slots tgt lv st ws) (kf : ¬ x = y → EV π μ E cells slots (pc + 3) lv st ws) (ht : (pc : Int) + off = (tgt : Int) := by decide) : EV π μ E cells slots pc lv (va_rf y :: va_rf x :: st) ws := ev_br kt kf (fun hx hb w1 w2 => lv_acmp_eq hx hb d ht w1 w2)
theorem ev_acmpne {x y : Option Nat} {off : Int} (pc tgt : Nat) (d : decode μ.2.1 pc = .ok (.if_acmp .ne off, 3)) (kt : ¬ x = y → EV π μ E cells slots tgt lv st ws) (kf : x = y → EV π μ E cells slots (pc + 3) lv st ws) (ht : (pc : Int) + off = (tgt : Int) := by decide) : EV π μ E cells slots pc lv (va_rf y :: va_rf x :: st) ws := ev_br kt kf (fun hx hb w1 w2 => lv_acmp_ne hx hb d ht w1 w2)
theorem ev_ifnull {x : Nat} {off : Int} (pc : Nat) (d : decode μ.2.1 pc = .ok (.ifnull off, 3)) (k : EV π μ E cells slots (pc + 3) lv st ws) : EV π μ E cells slots pc lv (.ref x :: st) ws := ev_go k (fun hx hb w => lv_ifnull hx hb d w)
theorem ev_ifnullN {off : Int} (pc tgt : Nat) (d : decode μ.2.1 pc = .ok (.ifnull off, 3)) (k : EV π μ E cells slots tgt lv st ws) (ht : (pc : Int) + off = (tgt : Int) := by decide) : EV π μ E cells slots pc lv (.null :: st) ws := ev_go k (fun hx hb w => lv_ifnullN hx hb d ht w)
theorem ev_ifnonnull {x : Nat} {off : Int} (pc tgt : Nat) (d : decode μ.2.1 pc = .ok (.ifnonnull off, 3)) (k : EV π μ E cells slots tgt lv st ws) (ht : (pc : Int) + off = (tgt : Int) := by decide) : EV π μ E cells slots pc lv (.ref x :: st) ws := ev_go k (fun hx hb w => lv_ifnonnull hx hb d ht w)
theorem ev_ifnonnullN {off : Int} (pc : Nat) (d : decode μ.2.1 pc = .ok (.ifnonnull off, 3)) (k : EV π μ E cells slots (pc + 3) lv st ws) : EV π μ E cells slots pc lv (.null :: st) ws := ev_go k (fun hx hb w => lv_ifnonnullN hx hb d w)
theorem ev_tabOut {dflt lo hi : Int} {offs : Array Int} {len : Nat} {x : Int32} (pc tgt : Nat) (d : decode μ.2.1 pc = .ok (.tableswitch dflt lo hi offs, len)) (h : x.toInt < lo ∨ hi < x.toInt) (k : EV π μ E cells slots tgt lv st ws) (ht : (pc : Int) + dflt = (tgt : Int) := by decide) : EV π μ E cells slots pc lv (.int x :: st) ws := ev_go k (fun hx hb w => lv_tableOut hx hb d h ht w)
theorem ev_tabIn {dflt lo hi : Int} {offs : Array Int} {len : Nat} {x : Int32} {off : Int} (pc tgt : Nat) (d : decode μ.2.1 pc = .ok (.tableswitch dflt lo hi offs, len)) (h1 : ¬ x.toInt < lo) (h2 : ¬ hi < x.toInt) (ho : offs[(x.toInt - lo).toNat]? = some off) (k : EV π μ E cells slots tgt lv st ws) (ht : (pc : Int) + off = (tgt : Int) := by decide) : EV π μ E cells slots pc lv (.int x :: st) ws := ev_go k (fun hx hb w => lv_tableIn hx hb d h1 h2 ho ht w)
theorem ev_look {dflt : Int} {ps : Array (Int × Int)} {len : Nat} {x : Int32} {off : Int} (pc tgt : Nat) (d : decode μ.2.1 pc = .ok (.lookupswitch dflt ps, len)) (hp : (ps.toList.zip (ps.toList.drop 1)).all (fun (a, next) => a.1 < next.1) = true) (ho : Op.lookupswitch.offset ps.toList dflt x.toInt = off) (k : EV π μ E cells slots tgt lv st ws) (ht : (pc : Int) + off = (tgt : Int) := by decide) : EV π μ E cells slots pc lv (.int x :: st) ws := ev_go k (fun hx hb w => lv_lookup hx hb d hp ho ht w)
theorem ev_ldc {index : Nat} (v : Int32) (pc : Nat) (d : decode μ.2.1 pc = .ok (.ldc index, 2)) (hw : Cond.constant μ.1.cls index v ∈ μ.2.2.2.2.1) (k : EV π μ E cells slots (pc + 2) lv (.int v :: st) ws) : EV π μ E cells slots pc lv st ws :=
  fun p e s m args below meth c H locs ls A C hl hK hZ hP hD hS hA => lv_ldc C.1 C.2.1 C.2.2.2.1 (C.2.2.2.2.1 _ hw) d (k p e s m args below meth c H locs ls A C hl hK hZ hP hD hS hA)
theorem ev_ldcw {index : Nat} (v : Int32) (pc : Nat) (d : decode μ.2.1 pc = .ok (.ldc_w index, 3)) (hw : Cond.constant μ.1.cls index v ∈ μ.2.2.2.2.1) (k : EV π μ E cells slots (pc + 3) lv (.int v :: st) ws) : EV π μ E cells slots pc lv st ws :=
  fun p e s m args below meth c H locs ls A C hl hK hZ hP hD hS hA => lv_ldcw C.1 C.2.1 C.2.2.2.1 (C.2.2.2.2.1 _ hw) d (k p e s m args below meth c H locs ls A C hl hK hZ hP hD hS hA)
theorem ev_ldc2 {index : Nat} (v : Int64) (pc : Nat) (d : decode μ.2.1 pc = .ok (.ldc2_w index, 3)) (hw : Cond.constantLong μ.1.cls index v ∈ μ.2.2.2.2.1) (k : EV π μ E cells slots (pc + 3) lv (.long v :: st) ws) : EV π μ E cells slots pc lv st ws :=
  fun p e s m args below meth c H locs ls A C hl hK hZ hP hD hS hA => lv_ldc2 C.1 C.2.1 C.2.2.2.1 (C.2.2.2.2.1 _ hw) d (k p e s m args below meth c H locs ls A C hl hK hZ hP hD hS hA)

theorem ev_istS {i : Nat} {x : Int32} (pc : Nat) (d : decode μ.2.1 pc = .ok (.istore i, 2)) (hn : i < μ.2.2.1) (hb1 : ev_b1 lv i = true) (k : EV π μ E cells slots (pc + 2) (lv.set i (some (.int x))) st ws) : EV π μ E cells slots pc lv (.int x :: st) ws :=
  fun p e s m args below meth c H locs ls A C hl hK hZ hP hD hS hA => lv_istore C.1 C.2.1 d hl.has hn rfl (fun ls' h' => k p e s m args below meth c H locs ls' A C (ev_ls.set h' (fun _ z => z) hb1) hK hZ hP hD hS hA)
theorem ev_istN {f : Fin 4} {i : Nat} {x : Int32} (pc : Nat) (d : decode μ.2.1 pc = .ok (.istore_n f, 1)) (hi : (f : Nat) = i) (hn : i < μ.2.2.1) (hb1 : ev_b1 lv i = true) (k : EV π μ E cells slots (pc + 1) (lv.set i (some (.int x))) st ws) : EV π μ E cells slots pc lv (.int x :: st) ws :=
  fun p e s m args below meth c H locs ls A C hl hK hZ hP hD hS hA => lv_istore_n C.1 C.2.1 d hi hl.has hn rfl (fun ls' h' => k p e s m args below meth c H locs ls' A C (ev_ls.set h' (fun _ z => z) hb1) hK hZ hP hD hS hA)
theorem ev_astS {i : Nat} {x : Nat} (pc : Nat) (d : decode μ.2.1 pc = .ok (.astore i, 2)) (hn : i < μ.2.2.1) (hb1 : ev_b1 lv i = true) (k : EV π μ E cells slots (pc + 2) (lv.set i (some (.ref x))) st ws) : EV π μ E cells slots pc lv (.ref x :: st) ws :=
  fun p e s m args below meth c H locs ls A C hl hK hZ hP hD hS hA => lv_astore C.1 C.2.1 d hl.has hn rfl (fun ls' h' => k p e s m args below meth c H locs ls' A C (ev_ls.set h' (fun _ z => z) hb1) hK hZ hP hD hS hA)
theorem ev_astN {f : Fin 4} {i : Nat} {x : Nat} (pc : Nat) (d : decode μ.2.1 pc = .ok (.astore_n f, 1)) (hi : (f : Nat) = i) (hn : i < μ.2.2.1) (hb1 : ev_b1 lv i = true) (k : EV π μ E cells slots (pc + 1) (lv.set i (some (.ref x))) st ws) : EV π μ E cells slots pc lv (.ref x :: st) ws :=
  fun p e s m args below meth c H locs ls A C hl hK hZ hP hD hS hA => lv_astore_n C.1 C.2.1 d hi hl.has hn rfl (fun ls' h' => k p e s m args below meth c H locs ls' A C (ev_ls.set h' (fun _ z => z) hb1) hK hZ hP hD hS hA)
theorem ev_astSN {i : Nat} (pc : Nat) (d : decode μ.2.1 pc = .ok (.astore i, 2)) (hn : i < μ.2.2.1) (hb1 : ev_b1 lv i = true) (k : EV π μ E cells slots (pc + 2) (lv.set i (some .null)) st ws) : EV π μ E cells slots pc lv (.null :: st) ws :=
  fun p e s m args below meth c H locs ls A C hl hK hZ hP hD hS hA => lv_astoreN C.1 C.2.1 d hl.has hn rfl (fun ls' h' => k p e s m args below meth c H locs ls' A C (ev_ls.set h' (fun _ z => z) hb1) hK hZ hP hD hS hA)
theorem ev_astNN {f : Fin 4} {i : Nat} (pc : Nat) (d : decode μ.2.1 pc = .ok (.astore_n f, 1)) (hi : (f : Nat) = i) (hn : i < μ.2.2.1) (hb1 : ev_b1 lv i = true) (k : EV π μ E cells slots (pc + 1) (lv.set i (some .null)) st ws) : EV π μ E cells slots pc lv (.null :: st) ws :=
  fun p e s m args below meth c H locs ls A C hl hK hZ hP hD hS hA => lv_astore_nN C.1 C.2.1 d hi hl.has hn rfl (fun ls' h' => k p e s m args below meth c H locs ls' A C (ev_ls.set h' (fun _ z => z) hb1) hK hZ hP hD hS hA)
theorem ev_incS {i : Nat} {n : Int} {x : Int32} (pc : Nat) (d : decode μ.2.1 pc = .ok (.iinc i n, 3)) (hv : lv[i]? = some (some (.int x))) (hn : i < μ.2.2.1) (hb1 : ev_b1 lv i = true) (k : EV π μ E cells slots (pc + 3) (lv.set i (some (.int (x + Int32.ofInt n)))) st ws) : EV π μ E cells slots pc lv st ws :=
  fun p e s m args below meth c H locs ls A C hl hK hZ hP hD hS hA => lv_iinc (k := 0) (lv := (i, .int x) :: ev_prs 0 lv) C.1 C.2.1 d ⟨hl.1, hl.2.1, fun q hq => by
      rcases List.mem_cons.mp hq with rfl | hq
      · exact hl.2.2 _ _ hv
      · exact hl.has.2.2 q hq⟩ rfl rfl hn rfl (fun ls' h' => k p e s m args below meth c H locs ls' A C (ev_ls.set h' (fun _ z => List.mem_cons_of_mem _ z) hb1) hK hZ hP hD hS hA)

theorem ev_iload_0 {x : Int32} {r : List (Option Value)} (pc : Nat) (d : decode μ.2.1 pc = .ok (.iload_n 0, 1)) (k : EV π μ E cells slots (pc + 1) (some (.int x) :: r) (.int x :: st) ws) : EV π μ E cells slots pc (some (.int x) :: r) st ws := ev_ld (i := 0) rfl k (fun hx hb hl w => lv_iload_n hx hb d rfl hl w)
theorem ev_lload_0 {x : Int64} {r : List (Option Value)} (pc : Nat) (d : decode μ.2.1 pc = .ok (.lload_n 0, 1)) (k : EV π μ E cells slots (pc + 1) (some (.long x) :: r) (.long x :: st) ws) : EV π μ E cells slots pc (some (.long x) :: r) st ws := ev_ld (i := 0) rfl k (fun hx hb hl w => lv_lload_n hx hb d rfl hl w)
theorem ev_aload_0 {x : Nat} {r : List (Option Value)} (pc : Nat) (d : decode μ.2.1 pc = .ok (.aload_n 0, 1)) (k : EV π μ E cells slots (pc + 1) (some (.ref x) :: r) (.ref x :: st) ws) : EV π μ E cells slots pc (some (.ref x) :: r) st ws := ev_ld (i := 0) rfl k (fun hx hb hl w => lv_aload_n hx hb d rfl hl w)
theorem ev_aloadN_0 {r : List (Option Value)} (pc : Nat) (d : decode μ.2.1 pc = .ok (.aload_n 0, 1)) (k : EV π μ E cells slots (pc + 1) (some .null :: r) (.null :: st) ws) : EV π μ E cells slots pc (some .null :: r) st ws := ev_ld (i := 0) rfl k (fun hx hb hl w => lv_aload_nN hx hb d rfl hl w)
theorem ev_istore_0 {x : Int32} {o : Option Value} {r : List (Option Value)} (pc : Nat) (d : decode μ.2.1 pc = .ok (.istore_n 0, 1)) (k : EV π μ E cells slots (pc + 1) (some (.int x) :: r) st ws) (hn : 0 < μ.2.2.1 := by decide) (hb1 : ev_b1 (o :: r) 0 = true := by rfl) : EV π μ E cells slots pc (o :: r) (.int x :: st) ws := ev_istN pc d rfl hn hb1 k
theorem ev_astore_0 {x : Nat} {o : Option Value} {r : List (Option Value)} (pc : Nat) (d : decode μ.2.1 pc = .ok (.astore_n 0, 1)) (k : EV π μ E cells slots (pc + 1) (some (.ref x) :: r) st ws) (hn : 0 < μ.2.2.1 := by decide) (hb1 : ev_b1 (o :: r) 0 = true := by rfl) : EV π μ E cells slots pc (o :: r) (.ref x :: st) ws := ev_astN pc d rfl hn hb1 k
theorem ev_astoreN_0 {o : Option Value} {r : List (Option Value)} (pc : Nat) (d : decode μ.2.1 pc = .ok (.astore_n 0, 1)) (k : EV π μ E cells slots (pc + 1) (some .null :: r) st ws) (hn : 0 < μ.2.2.1 := by decide) (hb1 : ev_b1 (o :: r) 0 = true := by rfl) : EV π μ E cells slots pc (o :: r) (.null :: st) ws := ev_astNN pc d rfl hn hb1 k
theorem ev_iinc_0 {x : Int32} {n : Int} {r : List (Option Value)} (pc : Nat) (d : decode μ.2.1 pc = .ok (.iinc 0 n, 3)) (k : EV π μ E cells slots (pc + 3) (some (.int (x + Int32.ofInt n)) :: r) st ws) (hn : 0 < μ.2.2.1 := by decide) (hb1 : ev_b1 (some (.int x) :: r) 0 = true := by rfl) : EV π μ E cells slots pc (some (.int x) :: r) st ws := ev_incS pc d rfl hn hb1 k
theorem ev_iload_1 {x : Int32} {a0 : Option Value} {r : List (Option Value)} (pc : Nat) (d : decode μ.2.1 pc = .ok (.iload_n 1, 1)) (k : EV π μ E cells slots (pc + 1) (a0 :: some (.int x) :: r) (.int x :: st) ws) : EV π μ E cells slots pc (a0 :: some (.int x) :: r) st ws := ev_ld (i := 1) rfl k (fun hx hb hl w => lv_iload_n hx hb d rfl hl w)
theorem ev_lload_1 {x : Int64} {a0 : Option Value} {r : List (Option Value)} (pc : Nat) (d : decode μ.2.1 pc = .ok (.lload_n 1, 1)) (k : EV π μ E cells slots (pc + 1) (a0 :: some (.long x) :: r) (.long x :: st) ws) : EV π μ E cells slots pc (a0 :: some (.long x) :: r) st ws := ev_ld (i := 1) rfl k (fun hx hb hl w => lv_lload_n hx hb d rfl hl w)
theorem ev_aload_1 {x : Nat} {a0 : Option Value} {r : List (Option Value)} (pc : Nat) (d : decode μ.2.1 pc = .ok (.aload_n 1, 1)) (k : EV π μ E cells slots (pc + 1) (a0 :: some (.ref x) :: r) (.ref x :: st) ws) : EV π μ E cells slots pc (a0 :: some (.ref x) :: r) st ws := ev_ld (i := 1) rfl k (fun hx hb hl w => lv_aload_n hx hb d rfl hl w)
theorem ev_aloadN_1 {a0 : Option Value} {r : List (Option Value)} (pc : Nat) (d : decode μ.2.1 pc = .ok (.aload_n 1, 1)) (k : EV π μ E cells slots (pc + 1) (a0 :: some .null :: r) (.null :: st) ws) : EV π μ E cells slots pc (a0 :: some .null :: r) st ws := ev_ld (i := 1) rfl k (fun hx hb hl w => lv_aload_nN hx hb d rfl hl w)
theorem ev_istore_1 {x : Int32} {a0 : Option Value} {o : Option Value} {r : List (Option Value)} (pc : Nat) (d : decode μ.2.1 pc = .ok (.istore_n 1, 1)) (k : EV π μ E cells slots (pc + 1) (a0 :: some (.int x) :: r) st ws) (hn : 1 < μ.2.2.1 := by decide) (hb1 : ev_b1 (a0 :: o :: r) 1 = true := by rfl) : EV π μ E cells slots pc (a0 :: o :: r) (.int x :: st) ws := ev_istN pc d rfl hn hb1 k
theorem ev_astore_1 {x : Nat} {a0 : Option Value} {o : Option Value} {r : List (Option Value)} (pc : Nat) (d : decode μ.2.1 pc = .ok (.astore_n 1, 1)) (k : EV π μ E cells slots (pc + 1) (a0 :: some (.ref x) :: r) st ws) (hn : 1 < μ.2.2.1 := by decide) (hb1 : ev_b1 (a0 :: o :: r) 1 = true := by rfl) : EV π μ E cells slots pc (a0 :: o :: r) (.ref x :: st) ws := ev_astN pc d rfl hn hb1 k
theorem ev_astoreN_1 {a0 : Option Value} {o : Option Value} {r : List (Option Value)} (pc : Nat) (d : decode μ.2.1 pc = .ok (.astore_n 1, 1)) (k : EV π μ E cells slots (pc + 1) (a0 :: some .null :: r) st ws) (hn : 1 < μ.2.2.1 := by decide) (hb1 : ev_b1 (a0 :: o :: r) 1 = true := by rfl) : EV π μ E cells slots pc (a0 :: o :: r) (.null :: st) ws := ev_astNN pc d rfl hn hb1 k
theorem ev_iinc_1 {x : Int32} {n : Int} {a0 : Option Value} {r : List (Option Value)} (pc : Nat) (d : decode μ.2.1 pc = .ok (.iinc 1 n, 3)) (k : EV π μ E cells slots (pc + 3) (a0 :: some (.int (x + Int32.ofInt n)) :: r) st ws) (hn : 1 < μ.2.2.1 := by decide) (hb1 : ev_b1 (a0 :: some (.int x) :: r) 1 = true := by rfl) : EV π μ E cells slots pc (a0 :: some (.int x) :: r) st ws := ev_incS pc d rfl hn hb1 k
theorem ev_iload_2 {x : Int32} {a0 a1 : Option Value} {r : List (Option Value)} (pc : Nat) (d : decode μ.2.1 pc = .ok (.iload_n 2, 1)) (k : EV π μ E cells slots (pc + 1) (a0 :: a1 :: some (.int x) :: r) (.int x :: st) ws) : EV π μ E cells slots pc (a0 :: a1 :: some (.int x) :: r) st ws := ev_ld (i := 2) rfl k (fun hx hb hl w => lv_iload_n hx hb d rfl hl w)
theorem ev_lload_2 {x : Int64} {a0 a1 : Option Value} {r : List (Option Value)} (pc : Nat) (d : decode μ.2.1 pc = .ok (.lload_n 2, 1)) (k : EV π μ E cells slots (pc + 1) (a0 :: a1 :: some (.long x) :: r) (.long x :: st) ws) : EV π μ E cells slots pc (a0 :: a1 :: some (.long x) :: r) st ws := ev_ld (i := 2) rfl k (fun hx hb hl w => lv_lload_n hx hb d rfl hl w)
theorem ev_aload_2 {x : Nat} {a0 a1 : Option Value} {r : List (Option Value)} (pc : Nat) (d : decode μ.2.1 pc = .ok (.aload_n 2, 1)) (k : EV π μ E cells slots (pc + 1) (a0 :: a1 :: some (.ref x) :: r) (.ref x :: st) ws) : EV π μ E cells slots pc (a0 :: a1 :: some (.ref x) :: r) st ws := ev_ld (i := 2) rfl k (fun hx hb hl w => lv_aload_n hx hb d rfl hl w)
theorem ev_aloadN_2 {a0 a1 : Option Value} {r : List (Option Value)} (pc : Nat) (d : decode μ.2.1 pc = .ok (.aload_n 2, 1)) (k : EV π μ E cells slots (pc + 1) (a0 :: a1 :: some .null :: r) (.null :: st) ws) : EV π μ E cells slots pc (a0 :: a1 :: some .null :: r) st ws := ev_ld (i := 2) rfl k (fun hx hb hl w => lv_aload_nN hx hb d rfl hl w)
theorem ev_istore_2 {x : Int32} {a0 a1 : Option Value} {o : Option Value} {r : List (Option Value)} (pc : Nat) (d : decode μ.2.1 pc = .ok (.istore_n 2, 1)) (k : EV π μ E cells slots (pc + 1) (a0 :: a1 :: some (.int x) :: r) st ws) (hn : 2 < μ.2.2.1 := by decide) (hb1 : ev_b1 (a0 :: a1 :: o :: r) 2 = true := by rfl) : EV π μ E cells slots pc (a0 :: a1 :: o :: r) (.int x :: st) ws := ev_istN pc d rfl hn hb1 k
theorem ev_astore_2 {x : Nat} {a0 a1 : Option Value} {o : Option Value} {r : List (Option Value)} (pc : Nat) (d : decode μ.2.1 pc = .ok (.astore_n 2, 1)) (k : EV π μ E cells slots (pc + 1) (a0 :: a1 :: some (.ref x) :: r) st ws) (hn : 2 < μ.2.2.1 := by decide) (hb1 : ev_b1 (a0 :: a1 :: o :: r) 2 = true := by rfl) : EV π μ E cells slots pc (a0 :: a1 :: o :: r) (.ref x :: st) ws := ev_astN pc d rfl hn hb1 k
theorem ev_astoreN_2 {a0 a1 : Option Value} {o : Option Value} {r : List (Option Value)} (pc : Nat) (d : decode μ.2.1 pc = .ok (.astore_n 2, 1)) (k : EV π μ E cells slots (pc + 1) (a0 :: a1 :: some .null :: r) st ws) (hn : 2 < μ.2.2.1 := by decide) (hb1 : ev_b1 (a0 :: a1 :: o :: r) 2 = true := by rfl) : EV π μ E cells slots pc (a0 :: a1 :: o :: r) (.null :: st) ws := ev_astNN pc d rfl hn hb1 k
theorem ev_iinc_2 {x : Int32} {n : Int} {a0 a1 : Option Value} {r : List (Option Value)} (pc : Nat) (d : decode μ.2.1 pc = .ok (.iinc 2 n, 3)) (k : EV π μ E cells slots (pc + 3) (a0 :: a1 :: some (.int (x + Int32.ofInt n)) :: r) st ws) (hn : 2 < μ.2.2.1 := by decide) (hb1 : ev_b1 (a0 :: a1 :: some (.int x) :: r) 2 = true := by rfl) : EV π μ E cells slots pc (a0 :: a1 :: some (.int x) :: r) st ws := ev_incS pc d rfl hn hb1 k
theorem ev_iload_3 {x : Int32} {a0 a1 a2 : Option Value} {r : List (Option Value)} (pc : Nat) (d : decode μ.2.1 pc = .ok (.iload_n 3, 1)) (k : EV π μ E cells slots (pc + 1) (a0 :: a1 :: a2 :: some (.int x) :: r) (.int x :: st) ws) : EV π μ E cells slots pc (a0 :: a1 :: a2 :: some (.int x) :: r) st ws := ev_ld (i := 3) rfl k (fun hx hb hl w => lv_iload_n hx hb d rfl hl w)
theorem ev_lload_3 {x : Int64} {a0 a1 a2 : Option Value} {r : List (Option Value)} (pc : Nat) (d : decode μ.2.1 pc = .ok (.lload_n 3, 1)) (k : EV π μ E cells slots (pc + 1) (a0 :: a1 :: a2 :: some (.long x) :: r) (.long x :: st) ws) : EV π μ E cells slots pc (a0 :: a1 :: a2 :: some (.long x) :: r) st ws := ev_ld (i := 3) rfl k (fun hx hb hl w => lv_lload_n hx hb d rfl hl w)
theorem ev_aload_3 {x : Nat} {a0 a1 a2 : Option Value} {r : List (Option Value)} (pc : Nat) (d : decode μ.2.1 pc = .ok (.aload_n 3, 1)) (k : EV π μ E cells slots (pc + 1) (a0 :: a1 :: a2 :: some (.ref x) :: r) (.ref x :: st) ws) : EV π μ E cells slots pc (a0 :: a1 :: a2 :: some (.ref x) :: r) st ws := ev_ld (i := 3) rfl k (fun hx hb hl w => lv_aload_n hx hb d rfl hl w)
theorem ev_aloadN_3 {a0 a1 a2 : Option Value} {r : List (Option Value)} (pc : Nat) (d : decode μ.2.1 pc = .ok (.aload_n 3, 1)) (k : EV π μ E cells slots (pc + 1) (a0 :: a1 :: a2 :: some .null :: r) (.null :: st) ws) : EV π μ E cells slots pc (a0 :: a1 :: a2 :: some .null :: r) st ws := ev_ld (i := 3) rfl k (fun hx hb hl w => lv_aload_nN hx hb d rfl hl w)
theorem ev_istore_3 {x : Int32} {a0 a1 a2 : Option Value} {o : Option Value} {r : List (Option Value)} (pc : Nat) (d : decode μ.2.1 pc = .ok (.istore_n 3, 1)) (k : EV π μ E cells slots (pc + 1) (a0 :: a1 :: a2 :: some (.int x) :: r) st ws) (hn : 3 < μ.2.2.1 := by decide) (hb1 : ev_b1 (a0 :: a1 :: a2 :: o :: r) 3 = true := by rfl) : EV π μ E cells slots pc (a0 :: a1 :: a2 :: o :: r) (.int x :: st) ws := ev_istN pc d rfl hn hb1 k
theorem ev_astore_3 {x : Nat} {a0 a1 a2 : Option Value} {o : Option Value} {r : List (Option Value)} (pc : Nat) (d : decode μ.2.1 pc = .ok (.astore_n 3, 1)) (k : EV π μ E cells slots (pc + 1) (a0 :: a1 :: a2 :: some (.ref x) :: r) st ws) (hn : 3 < μ.2.2.1 := by decide) (hb1 : ev_b1 (a0 :: a1 :: a2 :: o :: r) 3 = true := by rfl) : EV π μ E cells slots pc (a0 :: a1 :: a2 :: o :: r) (.ref x :: st) ws := ev_astN pc d rfl hn hb1 k
theorem ev_astoreN_3 {a0 a1 a2 : Option Value} {o : Option Value} {r : List (Option Value)} (pc : Nat) (d : decode μ.2.1 pc = .ok (.astore_n 3, 1)) (k : EV π μ E cells slots (pc + 1) (a0 :: a1 :: a2 :: some .null :: r) st ws) (hn : 3 < μ.2.2.1 := by decide) (hb1 : ev_b1 (a0 :: a1 :: a2 :: o :: r) 3 = true := by rfl) : EV π μ E cells slots pc (a0 :: a1 :: a2 :: o :: r) (.null :: st) ws := ev_astNN pc d rfl hn hb1 k
theorem ev_iinc_3 {x : Int32} {n : Int} {a0 a1 a2 : Option Value} {r : List (Option Value)} (pc : Nat) (d : decode μ.2.1 pc = .ok (.iinc 3 n, 3)) (k : EV π μ E cells slots (pc + 3) (a0 :: a1 :: a2 :: some (.int (x + Int32.ofInt n)) :: r) st ws) (hn : 3 < μ.2.2.1 := by decide) (hb1 : ev_b1 (a0 :: a1 :: a2 :: some (.int x) :: r) 3 = true := by rfl) : EV π μ E cells slots pc (a0 :: a1 :: a2 :: some (.int x) :: r) st ws := ev_incS pc d rfl hn hb1 k
theorem ev_iload_4 {x : Int32} {a0 a1 a2 a3 : Option Value} {r : List (Option Value)} (pc : Nat) (d : decode μ.2.1 pc = .ok (.iload 4, 2)) (k : EV π μ E cells slots (pc + 2) (a0 :: a1 :: a2 :: a3 :: some (.int x) :: r) (.int x :: st) ws) : EV π μ E cells slots pc (a0 :: a1 :: a2 :: a3 :: some (.int x) :: r) st ws := ev_ld (i := 4) rfl k (fun hx hb hl w => lv_iload hx hb d hl w)
theorem ev_lload_4 {x : Int64} {a0 a1 a2 a3 : Option Value} {r : List (Option Value)} (pc : Nat) (d : decode μ.2.1 pc = .ok (.lload 4, 2)) (k : EV π μ E cells slots (pc + 2) (a0 :: a1 :: a2 :: a3 :: some (.long x) :: r) (.long x :: st) ws) : EV π μ E cells slots pc (a0 :: a1 :: a2 :: a3 :: some (.long x) :: r) st ws := ev_ld (i := 4) rfl k (fun hx hb hl w => lv_lload hx hb d hl w)
theorem ev_aload_4 {x : Nat} {a0 a1 a2 a3 : Option Value} {r : List (Option Value)} (pc : Nat) (d : decode μ.2.1 pc = .ok (.aload 4, 2)) (k : EV π μ E cells slots (pc + 2) (a0 :: a1 :: a2 :: a3 :: some (.ref x) :: r) (.ref x :: st) ws) : EV π μ E cells slots pc (a0 :: a1 :: a2 :: a3 :: some (.ref x) :: r) st ws := ev_ld (i := 4) rfl k (fun hx hb hl w => lv_aload hx hb d hl w)
theorem ev_aloadN_4 {a0 a1 a2 a3 : Option Value} {r : List (Option Value)} (pc : Nat) (d : decode μ.2.1 pc = .ok (.aload 4, 2)) (k : EV π μ E cells slots (pc + 2) (a0 :: a1 :: a2 :: a3 :: some .null :: r) (.null :: st) ws) : EV π μ E cells slots pc (a0 :: a1 :: a2 :: a3 :: some .null :: r) st ws := ev_ld (i := 4) rfl k (fun hx hb hl w => lv_aloadN hx hb d hl w)
theorem ev_istore_4 {x : Int32} {a0 a1 a2 a3 : Option Value} {o : Option Value} {r : List (Option Value)} (pc : Nat) (d : decode μ.2.1 pc = .ok (.istore 4, 2)) (k : EV π μ E cells slots (pc + 2) (a0 :: a1 :: a2 :: a3 :: some (.int x) :: r) st ws) (hn : 4 < μ.2.2.1 := by decide) (hb1 : ev_b1 (a0 :: a1 :: a2 :: a3 :: o :: r) 4 = true := by rfl) : EV π μ E cells slots pc (a0 :: a1 :: a2 :: a3 :: o :: r) (.int x :: st) ws := ev_istS pc d hn hb1 k
theorem ev_astore_4 {x : Nat} {a0 a1 a2 a3 : Option Value} {o : Option Value} {r : List (Option Value)} (pc : Nat) (d : decode μ.2.1 pc = .ok (.astore 4, 2)) (k : EV π μ E cells slots (pc + 2) (a0 :: a1 :: a2 :: a3 :: some (.ref x) :: r) st ws) (hn : 4 < μ.2.2.1 := by decide) (hb1 : ev_b1 (a0 :: a1 :: a2 :: a3 :: o :: r) 4 = true := by rfl) : EV π μ E cells slots pc (a0 :: a1 :: a2 :: a3 :: o :: r) (.ref x :: st) ws := ev_astS pc d hn hb1 k
theorem ev_astoreN_4 {a0 a1 a2 a3 : Option Value} {o : Option Value} {r : List (Option Value)} (pc : Nat) (d : decode μ.2.1 pc = .ok (.astore 4, 2)) (k : EV π μ E cells slots (pc + 2) (a0 :: a1 :: a2 :: a3 :: some .null :: r) st ws) (hn : 4 < μ.2.2.1 := by decide) (hb1 : ev_b1 (a0 :: a1 :: a2 :: a3 :: o :: r) 4 = true := by rfl) : EV π μ E cells slots pc (a0 :: a1 :: a2 :: a3 :: o :: r) (.null :: st) ws := ev_astSN pc d hn hb1 k
theorem ev_iinc_4 {x : Int32} {n : Int} {a0 a1 a2 a3 : Option Value} {r : List (Option Value)} (pc : Nat) (d : decode μ.2.1 pc = .ok (.iinc 4 n, 3)) (k : EV π μ E cells slots (pc + 3) (a0 :: a1 :: a2 :: a3 :: some (.int (x + Int32.ofInt n)) :: r) st ws) (hn : 4 < μ.2.2.1 := by decide) (hb1 : ev_b1 (a0 :: a1 :: a2 :: a3 :: some (.int x) :: r) 4 = true := by rfl) : EV π μ E cells slots pc (a0 :: a1 :: a2 :: a3 :: some (.int x) :: r) st ws := ev_incS pc d rfl hn hb1 k
theorem ev_iload_5 {x : Int32} {a0 a1 a2 a3 a4 : Option Value} {r : List (Option Value)} (pc : Nat) (d : decode μ.2.1 pc = .ok (.iload 5, 2)) (k : EV π μ E cells slots (pc + 2) (a0 :: a1 :: a2 :: a3 :: a4 :: some (.int x) :: r) (.int x :: st) ws) : EV π μ E cells slots pc (a0 :: a1 :: a2 :: a3 :: a4 :: some (.int x) :: r) st ws := ev_ld (i := 5) rfl k (fun hx hb hl w => lv_iload hx hb d hl w)
theorem ev_lload_5 {x : Int64} {a0 a1 a2 a3 a4 : Option Value} {r : List (Option Value)} (pc : Nat) (d : decode μ.2.1 pc = .ok (.lload 5, 2)) (k : EV π μ E cells slots (pc + 2) (a0 :: a1 :: a2 :: a3 :: a4 :: some (.long x) :: r) (.long x :: st) ws) : EV π μ E cells slots pc (a0 :: a1 :: a2 :: a3 :: a4 :: some (.long x) :: r) st ws := ev_ld (i := 5) rfl k (fun hx hb hl w => lv_lload hx hb d hl w)
theorem ev_aload_5 {x : Nat} {a0 a1 a2 a3 a4 : Option Value} {r : List (Option Value)} (pc : Nat) (d : decode μ.2.1 pc = .ok (.aload 5, 2)) (k : EV π μ E cells slots (pc + 2) (a0 :: a1 :: a2 :: a3 :: a4 :: some (.ref x) :: r) (.ref x :: st) ws) : EV π μ E cells slots pc (a0 :: a1 :: a2 :: a3 :: a4 :: some (.ref x) :: r) st ws := ev_ld (i := 5) rfl k (fun hx hb hl w => lv_aload hx hb d hl w)
theorem ev_aloadN_5 {a0 a1 a2 a3 a4 : Option Value} {r : List (Option Value)} (pc : Nat) (d : decode μ.2.1 pc = .ok (.aload 5, 2)) (k : EV π μ E cells slots (pc + 2) (a0 :: a1 :: a2 :: a3 :: a4 :: some .null :: r) (.null :: st) ws) : EV π μ E cells slots pc (a0 :: a1 :: a2 :: a3 :: a4 :: some .null :: r) st ws := ev_ld (i := 5) rfl k (fun hx hb hl w => lv_aloadN hx hb d hl w)
theorem ev_istore_5 {x : Int32} {a0 a1 a2 a3 a4 : Option Value} {o : Option Value} {r : List (Option Value)} (pc : Nat) (d : decode μ.2.1 pc = .ok (.istore 5, 2)) (k : EV π μ E cells slots (pc + 2) (a0 :: a1 :: a2 :: a3 :: a4 :: some (.int x) :: r) st ws) (hn : 5 < μ.2.2.1 := by decide) (hb1 : ev_b1 (a0 :: a1 :: a2 :: a3 :: a4 :: o :: r) 5 = true := by rfl) : EV π μ E cells slots pc (a0 :: a1 :: a2 :: a3 :: a4 :: o :: r) (.int x :: st) ws := ev_istS pc d hn hb1 k
theorem ev_astore_5 {x : Nat} {a0 a1 a2 a3 a4 : Option Value} {o : Option Value} {r : List (Option Value)} (pc : Nat) (d : decode μ.2.1 pc = .ok (.astore 5, 2)) (k : EV π μ E cells slots (pc + 2) (a0 :: a1 :: a2 :: a3 :: a4 :: some (.ref x) :: r) st ws) (hn : 5 < μ.2.2.1 := by decide) (hb1 : ev_b1 (a0 :: a1 :: a2 :: a3 :: a4 :: o :: r) 5 = true := by rfl) : EV π μ E cells slots pc (a0 :: a1 :: a2 :: a3 :: a4 :: o :: r) (.ref x :: st) ws := ev_astS pc d hn hb1 k
theorem ev_astoreN_5 {a0 a1 a2 a3 a4 : Option Value} {o : Option Value} {r : List (Option Value)} (pc : Nat) (d : decode μ.2.1 pc = .ok (.astore 5, 2)) (k : EV π μ E cells slots (pc + 2) (a0 :: a1 :: a2 :: a3 :: a4 :: some .null :: r) st ws) (hn : 5 < μ.2.2.1 := by decide) (hb1 : ev_b1 (a0 :: a1 :: a2 :: a3 :: a4 :: o :: r) 5 = true := by rfl) : EV π μ E cells slots pc (a0 :: a1 :: a2 :: a3 :: a4 :: o :: r) (.null :: st) ws := ev_astSN pc d hn hb1 k
theorem ev_iinc_5 {x : Int32} {n : Int} {a0 a1 a2 a3 a4 : Option Value} {r : List (Option Value)} (pc : Nat) (d : decode μ.2.1 pc = .ok (.iinc 5 n, 3)) (k : EV π μ E cells slots (pc + 3) (a0 :: a1 :: a2 :: a3 :: a4 :: some (.int (x + Int32.ofInt n)) :: r) st ws) (hn : 5 < μ.2.2.1 := by decide) (hb1 : ev_b1 (a0 :: a1 :: a2 :: a3 :: a4 :: some (.int x) :: r) 5 = true := by rfl) : EV π μ E cells slots pc (a0 :: a1 :: a2 :: a3 :: a4 :: some (.int x) :: r) st ws := ev_incS pc d rfl hn hb1 k
theorem ev_iload_6 {x : Int32} {a0 a1 a2 a3 a4 a5 : Option Value} {r : List (Option Value)} (pc : Nat) (d : decode μ.2.1 pc = .ok (.iload 6, 2)) (k : EV π μ E cells slots (pc + 2) (a0 :: a1 :: a2 :: a3 :: a4 :: a5 :: some (.int x) :: r) (.int x :: st) ws) : EV π μ E cells slots pc (a0 :: a1 :: a2 :: a3 :: a4 :: a5 :: some (.int x) :: r) st ws := ev_ld (i := 6) rfl k (fun hx hb hl w => lv_iload hx hb d hl w)
theorem ev_lload_6 {x : Int64} {a0 a1 a2 a3 a4 a5 : Option Value} {r : List (Option Value)} (pc : Nat) (d : decode μ.2.1 pc = .ok (.lload 6, 2)) (k : EV π μ E cells slots (pc + 2) (a0 :: a1 :: a2 :: a3 :: a4 :: a5 :: some (.long x) :: r) (.long x :: st) ws) : EV π μ E cells slots pc (a0 :: a1 :: a2 :: a3 :: a4 :: a5 :: some (.long x) :: r) st ws := ev_ld (i := 6) rfl k (fun hx hb hl w => lv_lload hx hb d hl w)
theorem ev_aload_6 {x : Nat} {a0 a1 a2 a3 a4 a5 : Option Value} {r : List (Option Value)} (pc : Nat) (d : decode μ.2.1 pc = .ok (.aload 6, 2)) (k : EV π μ E cells slots (pc + 2) (a0 :: a1 :: a2 :: a3 :: a4 :: a5 :: some (.ref x) :: r) (.ref x :: st) ws) : EV π μ E cells slots pc (a0 :: a1 :: a2 :: a3 :: a4 :: a5 :: some (.ref x) :: r) st ws := ev_ld (i := 6) rfl k (fun hx hb hl w => lv_aload hx hb d hl w)
theorem ev_aloadN_6 {a0 a1 a2 a3 a4 a5 : Option Value} {r : List (Option Value)} (pc : Nat) (d : decode μ.2.1 pc = .ok (.aload 6, 2)) (k : EV π μ E cells slots (pc + 2) (a0 :: a1 :: a2 :: a3 :: a4 :: a5 :: some .null :: r) (.null :: st) ws) : EV π μ E cells slots pc (a0 :: a1 :: a2 :: a3 :: a4 :: a5 :: some .null :: r) st ws := ev_ld (i := 6) rfl k (fun hx hb hl w => lv_aloadN hx hb d hl w)
theorem ev_istore_6 {x : Int32} {a0 a1 a2 a3 a4 a5 : Option Value} {o : Option Value} {r : List (Option Value)} (pc : Nat) (d : decode μ.2.1 pc = .ok (.istore 6, 2)) (k : EV π μ E cells slots (pc + 2) (a0 :: a1 :: a2 :: a3 :: a4 :: a5 :: some (.int x) :: r) st ws) (hn : 6 < μ.2.2.1 := by decide) (hb1 : ev_b1 (a0 :: a1 :: a2 :: a3 :: a4 :: a5 :: o :: r) 6 = true := by rfl) : EV π μ E cells slots pc (a0 :: a1 :: a2 :: a3 :: a4 :: a5 :: o :: r) (.int x :: st) ws := ev_istS pc d hn hb1 k
theorem ev_astore_6 {x : Nat} {a0 a1 a2 a3 a4 a5 : Option Value} {o : Option Value} {r : List (Option Value)} (pc : Nat) (d : decode μ.2.1 pc = .ok (.astore 6, 2)) (k : EV π μ E cells slots (pc + 2) (a0 :: a1 :: a2 :: a3 :: a4 :: a5 :: some (.ref x) :: r) st ws) (hn : 6 < μ.2.2.1 := by decide) (hb1 : ev_b1 (a0 :: a1 :: a2 :: a3 :: a4 :: a5 :: o :: r) 6 = true := by rfl) : EV π μ E cells slots pc (a0 :: a1 :: a2 :: a3 :: a4 :: a5 :: o :: r) (.ref x :: st) ws := ev_astS pc d hn hb1 k
theorem ev_astoreN_6 {a0 a1 a2 a3 a4 a5 : Option Value} {o : Option Value} {r : List (Option Value)} (pc : Nat) (d : decode μ.2.1 pc = .ok (.astore 6, 2)) (k : EV π μ E cells slots (pc + 2) (a0 :: a1 :: a2 :: a3 :: a4 :: a5 :: some .null :: r) st ws) (hn : 6 < μ.2.2.1 := by decide) (hb1 : ev_b1 (a0 :: a1 :: a2 :: a3 :: a4 :: a5 :: o :: r) 6 = true := by rfl) : EV π μ E cells slots pc (a0 :: a1 :: a2 :: a3 :: a4 :: a5 :: o :: r) (.null :: st) ws := ev_astSN pc d hn hb1 k
theorem ev_iinc_6 {x : Int32} {n : Int} {a0 a1 a2 a3 a4 a5 : Option Value} {r : List (Option Value)} (pc : Nat) (d : decode μ.2.1 pc = .ok (.iinc 6 n, 3)) (k : EV π μ E cells slots (pc + 3) (a0 :: a1 :: a2 :: a3 :: a4 :: a5 :: some (.int (x + Int32.ofInt n)) :: r) st ws) (hn : 6 < μ.2.2.1 := by decide) (hb1 : ev_b1 (a0 :: a1 :: a2 :: a3 :: a4 :: a5 :: some (.int x) :: r) 6 = true := by rfl) : EV π μ E cells slots pc (a0 :: a1 :: a2 :: a3 :: a4 :: a5 :: some (.int x) :: r) st ws := ev_incS pc d rfl hn hb1 k
theorem ev_iload_7 {x : Int32} {a0 a1 a2 a3 a4 a5 a6 : Option Value} {r : List (Option Value)} (pc : Nat) (d : decode μ.2.1 pc = .ok (.iload 7, 2)) (k : EV π μ E cells slots (pc + 2) (a0 :: a1 :: a2 :: a3 :: a4 :: a5 :: a6 :: some (.int x) :: r) (.int x :: st) ws) : EV π μ E cells slots pc (a0 :: a1 :: a2 :: a3 :: a4 :: a5 :: a6 :: some (.int x) :: r) st ws := ev_ld (i := 7) rfl k (fun hx hb hl w => lv_iload hx hb d hl w)
theorem ev_lload_7 {x : Int64} {a0 a1 a2 a3 a4 a5 a6 : Option Value} {r : List (Option Value)} (pc : Nat) (d : decode μ.2.1 pc = .ok (.lload 7, 2)) (k : EV π μ E cells slots (pc + 2) (a0 :: a1 :: a2 :: a3 :: a4 :: a5 :: a6 :: some (.long x) :: r) (.long x :: st) ws) : EV π μ E cells slots pc (a0 :: a1 :: a2 :: a3 :: a4 :: a5 :: a6 :: some (.long x) :: r) st ws := ev_ld (i := 7) rfl k (fun hx hb hl w => lv_lload hx hb d hl w)
theorem ev_aload_7 {x : Nat} {a0 a1 a2 a3 a4 a5 a6 : Option Value} {r : List (Option Value)} (pc : Nat) (d : decode μ.2.1 pc = .ok (.aload 7, 2)) (k : EV π μ E cells slots (pc + 2) (a0 :: a1 :: a2 :: a3 :: a4 :: a5 :: a6 :: some (.ref x) :: r) (.ref x :: st) ws) : EV π μ E cells slots pc (a0 :: a1 :: a2 :: a3 :: a4 :: a5 :: a6 :: some (.ref x) :: r) st ws := ev_ld (i := 7) rfl k (fun hx hb hl w => lv_aload hx hb d hl w)
theorem ev_aloadN_7 {a0 a1 a2 a3 a4 a5 a6 : Option Value} {r : List (Option Value)} (pc : Nat) (d : decode μ.2.1 pc = .ok (.aload 7, 2)) (k : EV π μ E cells slots (pc + 2) (a0 :: a1 :: a2 :: a3 :: a4 :: a5 :: a6 :: some .null :: r) (.null :: st) ws) : EV π μ E cells slots pc (a0 :: a1 :: a2 :: a3 :: a4 :: a5 :: a6 :: some .null :: r) st ws := ev_ld (i := 7) rfl k (fun hx hb hl w => lv_aloadN hx hb d hl w)
theorem ev_istore_7 {x : Int32} {a0 a1 a2 a3 a4 a5 a6 : Option Value} {o : Option Value} {r : List (Option Value)} (pc : Nat) (d : decode μ.2.1 pc = .ok (.istore 7, 2)) (k : EV π μ E cells slots (pc + 2) (a0 :: a1 :: a2 :: a3 :: a4 :: a5 :: a6 :: some (.int x) :: r) st ws) (hn : 7 < μ.2.2.1 := by decide) (hb1 : ev_b1 (a0 :: a1 :: a2 :: a3 :: a4 :: a5 :: a6 :: o :: r) 7 = true := by rfl) : EV π μ E cells slots pc (a0 :: a1 :: a2 :: a3 :: a4 :: a5 :: a6 :: o :: r) (.int x :: st) ws := ev_istS pc d hn hb1 k
theorem ev_astore_7 {x : Nat} {a0 a1 a2 a3 a4 a5 a6 : Option Value} {o : Option Value} {r : List (Option Value)} (pc : Nat) (d : decode μ.2.1 pc = .ok (.astore 7, 2)) (k : EV π μ E cells slots (pc + 2) (a0 :: a1 :: a2 :: a3 :: a4 :: a5 :: a6 :: some (.ref x) :: r) st ws) (hn : 7 < μ.2.2.1 := by decide) (hb1 : ev_b1 (a0 :: a1 :: a2 :: a3 :: a4 :: a5 :: a6 :: o :: r) 7 = true := by rfl) : EV π μ E cells slots pc (a0 :: a1 :: a2 :: a3 :: a4 :: a5 :: a6 :: o :: r) (.ref x :: st) ws := ev_astS pc d hn hb1 k
theorem ev_astoreN_7 {a0 a1 a2 a3 a4 a5 a6 : Option Value} {o : Option Value} {r : List (Option Value)} (pc : Nat) (d : decode μ.2.1 pc = .ok (.astore 7, 2)) (k : EV π μ E cells slots (pc + 2) (a0 :: a1 :: a2 :: a3 :: a4 :: a5 :: a6 :: some .null :: r) st ws) (hn : 7 < μ.2.2.1 := by decide) (hb1 : ev_b1 (a0 :: a1 :: a2 :: a3 :: a4 :: a5 :: a6 :: o :: r) 7 = true := by rfl) : EV π μ E cells slots pc (a0 :: a1 :: a2 :: a3 :: a4 :: a5 :: a6 :: o :: r) (.null :: st) ws := ev_astSN pc d hn hb1 k
theorem ev_iinc_7 {x : Int32} {n : Int} {a0 a1 a2 a3 a4 a5 a6 : Option Value} {r : List (Option Value)} (pc : Nat) (d : decode μ.2.1 pc = .ok (.iinc 7 n, 3)) (k : EV π μ E cells slots (pc + 3) (a0 :: a1 :: a2 :: a3 :: a4 :: a5 :: a6 :: some (.int (x + Int32.ofInt n)) :: r) st ws) (hn : 7 < μ.2.2.1 := by decide) (hb1 : ev_b1 (a0 :: a1 :: a2 :: a3 :: a4 :: a5 :: a6 :: some (.int x) :: r) 7 = true := by rfl) : EV π μ E cells slots pc (a0 :: a1 :: a2 :: a3 :: a4 :: a5 :: a6 :: some (.int x) :: r) st ws := ev_incS pc d rfl hn hb1 k
theorem ev_iload_8 {x : Int32} {a0 a1 a2 a3 a4 a5 a6 a7 : Option Value} {r : List (Option Value)} (pc : Nat) (d : decode μ.2.1 pc = .ok (.iload 8, 2)) (k : EV π μ E cells slots (pc + 2) (a0 :: a1 :: a2 :: a3 :: a4 :: a5 :: a6 :: a7 :: some (.int x) :: r) (.int x :: st) ws) : EV π μ E cells slots pc (a0 :: a1 :: a2 :: a3 :: a4 :: a5 :: a6 :: a7 :: some (.int x) :: r) st ws := ev_ld (i := 8) rfl k (fun hx hb hl w => lv_iload hx hb d hl w)
theorem ev_lload_8 {x : Int64} {a0 a1 a2 a3 a4 a5 a6 a7 : Option Value} {r : List (Option Value)} (pc : Nat) (d : decode μ.2.1 pc = .ok (.lload 8, 2)) (k : EV π μ E cells slots (pc + 2) (a0 :: a1 :: a2 :: a3 :: a4 :: a5 :: a6 :: a7 :: some (.long x) :: r) (.long x :: st) ws) : EV π μ E cells slots pc (a0 :: a1 :: a2 :: a3 :: a4 :: a5 :: a6 :: a7 :: some (.long x) :: r) st ws := ev_ld (i := 8) rfl k (fun hx hb hl w => lv_lload hx hb d hl w)
theorem ev_aload_8 {x : Nat} {a0 a1 a2 a3 a4 a5 a6 a7 : Option Value} {r : List (Option Value)} (pc : Nat) (d : decode μ.2.1 pc = .ok (.aload 8, 2)) (k : EV π μ E cells slots (pc + 2) (a0 :: a1 :: a2 :: a3 :: a4 :: a5 :: a6 :: a7 :: some (.ref x) :: r) (.ref x :: st) ws) : EV π μ E cells slots pc (a0 :: a1 :: a2 :: a3 :: a4 :: a5 :: a6 :: a7 :: some (.ref x) :: r) st ws := ev_ld (i := 8) rfl k (fun hx hb hl w => lv_aload hx hb d hl w)
theorem ev_aloadN_8 {a0 a1 a2 a3 a4 a5 a6 a7 : Option Value} {r : List (Option Value)} (pc : Nat) (d : decode μ.2.1 pc = .ok (.aload 8, 2)) (k : EV π μ E cells slots (pc + 2) (a0 :: a1 :: a2 :: a3 :: a4 :: a5 :: a6 :: a7 :: some .null :: r) (.null :: st) ws) : EV π μ E cells slots pc (a0 :: a1 :: a2 :: a3 :: a4 :: a5 :: a6 :: a7 :: some .null :: r) st ws := ev_ld (i := 8) rfl k (fun hx hb hl w => lv_aloadN hx hb d hl w)
theorem ev_istore_8 {x : Int32} {a0 a1 a2 a3 a4 a5 a6 a7 : Option Value} {o : Option Value} {r : List (Option Value)} (pc : Nat) (d : decode μ.2.1 pc = .ok (.istore 8, 2)) (k : EV π μ E cells slots (pc + 2) (a0 :: a1 :: a2 :: a3 :: a4 :: a5 :: a6 :: a7 :: some (.int x) :: r) st ws) (hn : 8 < μ.2.2.1 := by decide) (hb1 : ev_b1 (a0 :: a1 :: a2 :: a3 :: a4 :: a5 :: a6 :: a7 :: o :: r) 8 = true := by rfl) : EV π μ E cells slots pc (a0 :: a1 :: a2 :: a3 :: a4 :: a5 :: a6 :: a7 :: o :: r) (.int x :: st) ws := ev_istS pc d hn hb1 k
theorem ev_astore_8 {x : Nat} {a0 a1 a2 a3 a4 a5 a6 a7 : Option Value} {o : Option Value} {r : List (Option Value)} (pc : Nat) (d : decode μ.2.1 pc = .ok (.astore 8, 2)) (k : EV π μ E cells slots (pc + 2) (a0 :: a1 :: a2 :: a3 :: a4 :: a5 :: a6 :: a7 :: some (.ref x) :: r) st ws) (hn : 8 < μ.2.2.1 := by decide) (hb1 : ev_b1 (a0 :: a1 :: a2 :: a3 :: a4 :: a5 :: a6 :: a7 :: o :: r) 8 = true := by rfl) : EV π μ E cells slots pc (a0 :: a1 :: a2 :: a3 :: a4 :: a5 :: a6 :: a7 :: o :: r) (.ref x :: st) ws := ev_astS pc d hn hb1 k
theorem ev_astoreN_8 {a0 a1 a2 a3 a4 a5 a6 a7 : Option Value} {o : Option Value} {r : List (Option Value)} (pc : Nat) (d : decode μ.2.1 pc = .ok (.astore 8, 2)) (k : EV π μ E cells slots (pc + 2) (a0 :: a1 :: a2 :: a3 :: a4 :: a5 :: a6 :: a7 :: some .null :: r) st ws) (hn : 8 < μ.2.2.1 := by decide) (hb1 : ev_b1 (a0 :: a1 :: a2 :: a3 :: a4 :: a5 :: a6 :: a7 :: o :: r) 8 = true := by rfl) : EV π μ E cells slots pc (a0 :: a1 :: a2 :: a3 :: a4 :: a5 :: a6 :: a7 :: o :: r) (.null :: st) ws := ev_astSN pc d hn hb1 k
theorem ev_iinc_8 {x : Int32} {n : Int} {a0 a1 a2 a3 a4 a5 a6 a7 : Option Value} {r : List (Option Value)} (pc : Nat) (d : decode μ.2.1 pc = .ok (.iinc 8 n, 3)) (k : EV π μ E cells slots (pc + 3) (a0 :: a1 :: a2 :: a3 :: a4 :: a5 :: a6 :: a7 :: some (.int (x + Int32.ofInt n)) :: r) st ws) (hn : 8 < μ.2.2.1 := by decide) (hb1 : ev_b1 (a0 :: a1 :: a2 :: a3 :: a4 :: a5 :: a6 :: a7 :: some (.int x) :: r) 8 = true := by rfl) : EV π μ E cells slots pc (a0 :: a1 :: a2 :: a3 :: a4 :: a5 :: a6 :: a7 :: some (.int x) :: r) st ws := ev_incS pc d rfl hn hb1 k
theorem ev_iload_9 {x : Int32} {a0 a1 a2 a3 a4 a5 a6 a7 a8 : Option Value} {r : List (Option Value)} (pc : Nat) (d : decode μ.2.1 pc = .ok (.iload 9, 2)) (k : EV π μ E cells slots (pc + 2) (a0 :: a1 :: a2 :: a3 :: a4 :: a5 :: a6 :: a7 :: a8 :: some (.int x) :: r) (.int x :: st) ws) : EV π μ E cells slots pc (a0 :: a1 :: a2 :: a3 :: a4 :: a5 :: a6 :: a7 :: a8 :: some (.int x) :: r) st ws := ev_ld (i := 9) rfl k (fun hx hb hl w => lv_iload hx hb d hl w)
theorem ev_lload_9 {x : Int64} {a0 a1 a2 a3 a4 a5 a6 a7 a8 : Option Value} {r : List (Option Value)} (pc : Nat) (d : decode μ.2.1 pc = .ok (.lload 9, 2)) (k : EV π μ E cells slots (pc + 2) (a0 :: a1 :: a2 :: a3 :: a4 :: a5 :: a6 :: a7 :: a8 :: some (.long x) :: r) (.long x :: st) ws) : EV π μ E cells slots pc (a0 :: a1 :: a2 :: a3 :: a4 :: a5 :: a6 :: a7 :: a8 :: some (.long x) :: r) st ws := ev_ld (i := 9) rfl k (fun hx hb hl w => lv_lload hx hb d hl w)
theorem ev_aload_9 {x : Nat} {a0 a1 a2 a3 a4 a5 a6 a7 a8 : Option Value} {r : List (Option Value)} (pc : Nat) (d : decode μ.2.1 pc = .ok (.aload 9, 2)) (k : EV π μ E cells slots (pc + 2) (a0 :: a1 :: a2 :: a3 :: a4 :: a5 :: a6 :: a7 :: a8 :: some (.ref x) :: r) (.ref x :: st) ws) : EV π μ E cells slots pc (a0 :: a1 :: a2 :: a3 :: a4 :: a5 :: a6 :: a7 :: a8 :: some (.ref x) :: r) st ws := ev_ld (i := 9) rfl k (fun hx hb hl w => lv_aload hx hb d hl w)
theorem ev_aloadN_9 {a0 a1 a2 a3 a4 a5 a6 a7 a8 : Option Value} {r : List (Option Value)} (pc : Nat) (d : decode μ.2.1 pc = .ok (.aload 9, 2)) (k : EV π μ E cells slots (pc + 2) (a0 :: a1 :: a2 :: a3 :: a4 :: a5 :: a6 :: a7 :: a8 :: some .null :: r) (.null :: st) ws) : EV π μ E cells slots pc (a0 :: a1 :: a2 :: a3 :: a4 :: a5 :: a6 :: a7 :: a8 :: some .null :: r) st ws := ev_ld (i := 9) rfl k (fun hx hb hl w => lv_aloadN hx hb d hl w)
theorem ev_istore_9 {x : Int32} {a0 a1 a2 a3 a4 a5 a6 a7 a8 : Option Value} {o : Option Value} {r : List (Option Value)} (pc : Nat) (d : decode μ.2.1 pc = .ok (.istore 9, 2)) (k : EV π μ E cells slots (pc + 2) (a0 :: a1 :: a2 :: a3 :: a4 :: a5 :: a6 :: a7 :: a8 :: some (.int x) :: r) st ws) (hn : 9 < μ.2.2.1 := by decide) (hb1 : ev_b1 (a0 :: a1 :: a2 :: a3 :: a4 :: a5 :: a6 :: a7 :: a8 :: o :: r) 9 = true := by rfl) : EV π μ E cells slots pc (a0 :: a1 :: a2 :: a3 :: a4 :: a5 :: a6 :: a7 :: a8 :: o :: r) (.int x :: st) ws := ev_istS pc d hn hb1 k
theorem ev_astore_9 {x : Nat} {a0 a1 a2 a3 a4 a5 a6 a7 a8 : Option Value} {o : Option Value} {r : List (Option Value)} (pc : Nat) (d : decode μ.2.1 pc = .ok (.astore 9, 2)) (k : EV π μ E cells slots (pc + 2) (a0 :: a1 :: a2 :: a3 :: a4 :: a5 :: a6 :: a7 :: a8 :: some (.ref x) :: r) st ws) (hn : 9 < μ.2.2.1 := by decide) (hb1 : ev_b1 (a0 :: a1 :: a2 :: a3 :: a4 :: a5 :: a6 :: a7 :: a8 :: o :: r) 9 = true := by rfl) : EV π μ E cells slots pc (a0 :: a1 :: a2 :: a3 :: a4 :: a5 :: a6 :: a7 :: a8 :: o :: r) (.ref x :: st) ws := ev_astS pc d hn hb1 k
theorem ev_astoreN_9 {a0 a1 a2 a3 a4 a5 a6 a7 a8 : Option Value} {o : Option Value} {r : List (Option Value)} (pc : Nat) (d : decode μ.2.1 pc = .ok (.astore 9, 2)) (k : EV π μ E cells slots (pc + 2) (a0 :: a1 :: a2 :: a3 :: a4 :: a5 :: a6 :: a7 :: a8 :: some .null :: r) st ws) (hn : 9 < μ.2.2.1 := by decide) (hb1 : ev_b1 (a0 :: a1 :: a2 :: a3 :: a4 :: a5 :: a6 :: a7 :: a8 :: o :: r) 9 = true := by rfl) : EV π μ E cells slots pc (a0 :: a1 :: a2 :: a3 :: a4 :: a5 :: a6 :: a7 :: a8 :: o :: r) (.null :: st) ws := ev_astSN pc d hn hb1 k
theorem ev_iinc_9 {x : Int32} {n : Int} {a0 a1 a2 a3 a4 a5 a6 a7 a8 : Option Value} {r : List (Option Value)} (pc : Nat) (d : decode μ.2.1 pc = .ok (.iinc 9 n, 3)) (k : EV π μ E cells slots (pc + 3) (a0 :: a1 :: a2 :: a3 :: a4 :: a5 :: a6 :: a7 :: a8 :: some (.int (x + Int32.ofInt n)) :: r) st ws) (hn : 9 < μ.2.2.1 := by decide) (hb1 : ev_b1 (a0 :: a1 :: a2 :: a3 :: a4 :: a5 :: a6 :: a7 :: a8 :: some (.int x) :: r) 9 = true := by rfl) : EV π μ E cells slots pc (a0 :: a1 :: a2 :: a3 :: a4 :: a5 :: a6 :: a7 :: a8 :: some (.int x) :: r) st ws := ev_incS pc d rfl hn hb1 k
theorem ev_iload_10 {x : Int32} {a0 a1 a2 a3 a4 a5 a6 a7 a8 a9 : Option Value} {r : List (Option Value)} (pc : Nat) (d : decode μ.2.1 pc = .ok (.iload 10, 2)) (k : EV π μ E cells slots (pc + 2) (a0 :: a1 :: a2 :: a3 :: a4 :: a5 :: a6 :: a7 :: a8 :: a9 :: some (.int x) :: r) (.int x :: st) ws) : EV π μ E cells slots pc (a0 :: a1 :: a2 :: a3 :: a4 :: a5 :: a6 :: a7 :: a8 :: a9 :: some (.int x) :: r) st ws := ev_ld (i := 10) rfl k (fun hx hb hl w => lv_iload hx hb d hl w)
theorem ev_lload_10 {x : Int64} {a0 a1 a2 a3 a4 a5 a6 a7 a8 a9 : Option Value} {r : List (Option Value)} (pc : Nat) (d : decode μ.2.1 pc = .ok (.lload 10, 2)) (k : EV π μ E cells slots (pc + 2) (a0 :: a1 :: a2 :: a3 :: a4 :: a5 :: a6 :: a7 :: a8 :: a9 :: some (.long x) :: r) (.long x :: st) ws) : EV π μ E cells slots pc (a0 :: a1 :: a2 :: a3 :: a4 :: a5 :: a6 :: a7 :: a8 :: a9 :: some (.long x) :: r) st ws := ev_ld (i := 10) rfl k (fun hx hb hl w => lv_lload hx hb d hl w)
theorem ev_aload_10 {x : Nat} {a0 a1 a2 a3 a4 a5 a6 a7 a8 a9 : Option Value} {r : List (Option Value)} (pc : Nat) (d : decode μ.2.1 pc = .ok (.aload 10, 2)) (k : EV π μ E cells slots (pc + 2) (a0 :: a1 :: a2 :: a3 :: a4 :: a5 :: a6 :: a7 :: a8 :: a9 :: some (.ref x) :: r) (.ref x :: st) ws) : EV π μ E cells slots pc (a0 :: a1 :: a2 :: a3 :: a4 :: a5 :: a6 :: a7 :: a8 :: a9 :: some (.ref x) :: r) st ws := ev_ld (i := 10) rfl k (fun hx hb hl w => lv_aload hx hb d hl w)
theorem ev_aloadN_10 {a0 a1 a2 a3 a4 a5 a6 a7 a8 a9 : Option Value} {r : List (Option Value)} (pc : Nat) (d : decode μ.2.1 pc = .ok (.aload 10, 2)) (k : EV π μ E cells slots (pc + 2) (a0 :: a1 :: a2 :: a3 :: a4 :: a5 :: a6 :: a7 :: a8 :: a9 :: some .null :: r) (.null :: st) ws) : EV π μ E cells slots pc (a0 :: a1 :: a2 :: a3 :: a4 :: a5 :: a6 :: a7 :: a8 :: a9 :: some .null :: r) st ws := ev_ld (i := 10) rfl k (fun hx hb hl w => lv_aloadN hx hb d hl w)
theorem ev_istore_10 {x : Int32} {a0 a1 a2 a3 a4 a5 a6 a7 a8 a9 : Option Value} {o : Option Value} {r : List (Option Value)} (pc : Nat) (d : decode μ.2.1 pc = .ok (.istore 10, 2)) (k : EV π μ E cells slots (pc + 2) (a0 :: a1 :: a2 :: a3 :: a4 :: a5 :: a6 :: a7 :: a8 :: a9 :: some (.int x) :: r) st ws) (hn : 10 < μ.2.2.1 := by decide) (hb1 : ev_b1 (a0 :: a1 :: a2 :: a3 :: a4 :: a5 :: a6 :: a7 :: a8 :: a9 :: o :: r) 10 = true := by rfl) : EV π μ E cells slots pc (a0 :: a1 :: a2 :: a3 :: a4 :: a5 :: a6 :: a7 :: a8 :: a9 :: o :: r) (.int x :: st) ws := ev_istS pc d hn hb1 k
theorem ev_astore_10 {x : Nat} {a0 a1 a2 a3 a4 a5 a6 a7 a8 a9 : Option Value} {o : Option Value} {r : List (Option Value)} (pc : Nat) (d : decode μ.2.1 pc = .ok (.astore 10, 2)) (k : EV π μ E cells slots (pc + 2) (a0 :: a1 :: a2 :: a3 :: a4 :: a5 :: a6 :: a7 :: a8 :: a9 :: some (.ref x) :: r) st ws) (hn : 10 < μ.2.2.1 := by decide) (hb1 : ev_b1 (a0 :: a1 :: a2 :: a3 :: a4 :: a5 :: a6 :: a7 :: a8 :: a9 :: o :: r) 10 = true := by rfl) : EV π μ E cells slots pc (a0 :: a1 :: a2 :: a3 :: a4 :: a5 :: a6 :: a7 :: a8 :: a9 :: o :: r) (.ref x :: st) ws := ev_astS pc d hn hb1 k
theorem ev_astoreN_10 {a0 a1 a2 a3 a4 a5 a6 a7 a8 a9 : Option Value} {o : Option Value} {r : List (Option Value)} (pc : Nat) (d : decode μ.2.1 pc = .ok (.astore 10, 2)) (k : EV π μ E cells slots (pc + 2) (a0 :: a1 :: a2 :: a3 :: a4 :: a5 :: a6 :: a7 :: a8 :: a9 :: some .null :: r) st ws) (hn : 10 < μ.2.2.1 := by decide) (hb1 : ev_b1 (a0 :: a1 :: a2 :: a3 :: a4 :: a5 :: a6 :: a7 :: a8 :: a9 :: o :: r) 10 = true := by rfl) : EV π μ E cells slots pc (a0 :: a1 :: a2 :: a3 :: a4 :: a5 :: a6 :: a7 :: a8 :: a9 :: o :: r) (.null :: st) ws := ev_astSN pc d hn hb1 k
theorem ev_iinc_10 {x : Int32} {n : Int} {a0 a1 a2 a3 a4 a5 a6 a7 a8 a9 : Option Value} {r : List (Option Value)} (pc : Nat) (d : decode μ.2.1 pc = .ok (.iinc 10 n, 3)) (k : EV π μ E cells slots (pc + 3) (a0 :: a1 :: a2 :: a3 :: a4 :: a5 :: a6 :: a7 :: a8 :: a9 :: some (.int (x + Int32.ofInt n)) :: r) st ws) (hn : 10 < μ.2.2.1 := by decide) (hb1 : ev_b1 (a0 :: a1 :: a2 :: a3 :: a4 :: a5 :: a6 :: a7 :: a8 :: a9 :: some (.int x) :: r) 10 = true := by rfl) : EV π μ E cells slots pc (a0 :: a1 :: a2 :: a3 :: a4 :: a5 :: a6 :: a7 :: a8 :: a9 :: some (.int x) :: r) st ws := ev_incS pc d rfl hn hb1 k
theorem ev_iload_11 {x : Int32} {a0 a1 a2 a3 a4 a5 a6 a7 a8 a9 a10 : Option Value} {r : List (Option Value)} (pc : Nat) (d : decode μ.2.1 pc = .ok (.iload 11, 2)) (k : EV π μ E cells slots (pc + 2) (a0 :: a1 :: a2 :: a3 :: a4 :: a5 :: a6 :: a7 :: a8 :: a9 :: a10 :: some (.int x) :: r) (.int x :: st) ws) : EV π μ E cells slots pc (a0 :: a1 :: a2 :: a3 :: a4 :: a5 :: a6 :: a7 :: a8 :: a9 :: a10 :: some (.int x) :: r) st ws := ev_ld (i := 11) rfl k (fun hx hb hl w => lv_iload hx hb d hl w)
theorem ev_lload_11 {x : Int64} {a0 a1 a2 a3 a4 a5 a6 a7 a8 a9 a10 : Option Value} {r : List (Option Value)} (pc : Nat) (d : decode μ.2.1 pc = .ok (.lload 11, 2)) (k : EV π μ E cells slots (pc + 2) (a0 :: a1 :: a2 :: a3 :: a4 :: a5 :: a6 :: a7 :: a8 :: a9 :: a10 :: some (.long x) :: r) (.long x :: st) ws) : EV π μ E cells slots pc (a0 :: a1 :: a2 :: a3 :: a4 :: a5 :: a6 :: a7 :: a8 :: a9 :: a10 :: some (.long x) :: r) st ws := ev_ld (i := 11) rfl k (fun hx hb hl w => lv_lload hx hb d hl w)
theorem ev_aload_11 {x : Nat} {a0 a1 a2 a3 a4 a5 a6 a7 a8 a9 a10 : Option Value} {r : List (Option Value)} (pc : Nat) (d : decode μ.2.1 pc = .ok (.aload 11, 2)) (k : EV π μ E cells slots (pc + 2) (a0 :: a1 :: a2 :: a3 :: a4 :: a5 :: a6 :: a7 :: a8 :: a9 :: a10 :: some (.ref x) :: r) (.ref x :: st) ws) : EV π μ E cells slots pc (a0 :: a1 :: a2 :: a3 :: a4 :: a5 :: a6 :: a7 :: a8 :: a9 :: a10 :: some (.ref x) :: r) st ws := ev_ld (i := 11) rfl k (fun hx hb hl w => lv_aload hx hb d hl w)
theorem ev_aloadN_11 {a0 a1 a2 a3 a4 a5 a6 a7 a8 a9 a10 : Option Value} {r : List (Option Value)} (pc : Nat) (d : decode μ.2.1 pc = .ok (.aload 11, 2)) (k : EV π μ E cells slots (pc + 2) (a0 :: a1 :: a2 :: a3 :: a4 :: a5 :: a6 :: a7 :: a8 :: a9 :: a10 :: some .null :: r) (.null :: st) ws) : EV π μ E cells slots pc (a0 :: a1 :: a2 :: a3 :: a4 :: a5 :: a6 :: a7 :: a8 :: a9 :: a10 :: some .null :: r) st ws := ev_ld (i := 11) rfl k (fun hx hb hl w => lv_aloadN hx hb d hl w)
theorem ev_istore_11 {x : Int32} {a0 a1 a2 a3 a4 a5 a6 a7 a8 a9 a10 : Option Value} {o : Option Value} {r : List (Option Value)} (pc : Nat) (d : decode μ.2.1 pc = .ok (.istore 11, 2)) (k : EV π μ E cells slots (pc + 2) (a0 :: a1 :: a2 :: a3 :: a4 :: a5 :: a6 :: a7 :: a8 :: a9 :: a10 :: some (.int x) :: r) st ws) (hn : 11 < μ.2.2.1 := by decide) (hb1 : ev_b1 (a0 :: a1 :: a2 :: a3 :: a4 :: a5 :: a6 :: a7 :: a8 :: a9 :: a10 :: o :: r) 11 = true := by rfl) : EV π μ E cells slots pc (a0 :: a1 :: a2 :: a3 :: a4 :: a5 :: a6 :: a7 :: a8 :: a9 :: a10 :: o :: r) (.int x :: st) ws := ev_istS pc d hn hb1 k
theorem ev_astore_11 {x : Nat} {a0 a1 a2 a3 a4 a5 a6 a7 a8 a9 a10 : Option Value} {o : Option Value} {r : List (Option Value)} (pc : Nat) (d : decode μ.2.1 pc = .ok (.astore 11, 2)) (k : EV π μ E cells slots (pc + 2) (a0 :: a1 :: a2 :: a3 :: a4 :: a5 :: a6 :: a7 :: a8 :: a9 :: a10 :: some (.ref x) :: r) st ws) (hn : 11 < μ.2.2.1 := by decide) (hb1 : ev_b1 (a0 :: a1 :: a2 :: a3 :: a4 :: a5 :: a6 :: a7 :: a8 :: a9 :: a10 :: o :: r) 11 = true := by rfl) : EV π μ E cells slots pc (a0 :: a1 :: a2 :: a3 :: a4 :: a5 :: a6 :: a7 :: a8 :: a9 :: a10 :: o :: r) (.ref x :: st) ws := ev_astS pc d hn hb1 k
theorem ev_astoreN_11 {a0 a1 a2 a3 a4 a5 a6 a7 a8 a9 a10 : Option Value} {o : Option Value} {r : List (Option Value)} (pc : Nat) (d : decode μ.2.1 pc = .ok (.astore 11, 2)) (k : EV π μ E cells slots (pc + 2) (a0 :: a1 :: a2 :: a3 :: a4 :: a5 :: a6 :: a7 :: a8 :: a9 :: a10 :: some .null :: r) st ws) (hn : 11 < μ.2.2.1 := by decide) (hb1 : ev_b1 (a0 :: a1 :: a2 :: a3 :: a4 :: a5 :: a6 :: a7 :: a8 :: a9 :: a10 :: o :: r) 11 = true := by rfl) : EV π μ E cells slots pc (a0 :: a1 :: a2 :: a3 :: a4 :: a5 :: a6 :: a7 :: a8 :: a9 :: a10 :: o :: r) (.null :: st) ws := ev_astSN pc d hn hb1 k
theorem ev_iinc_11 {x : Int32} {n : Int} {a0 a1 a2 a3 a4 a5 a6 a7 a8 a9 a10 : Option Value} {r : List (Option Value)} (pc : Nat) (d : decode μ.2.1 pc = .ok (.iinc 11 n, 3)) (k : EV π μ E cells slots (pc + 3) (a0 :: a1 :: a2 :: a3 :: a4 :: a5 :: a6 :: a7 :: a8 :: a9 :: a10 :: some (.int (x + Int32.ofInt n)) :: r) st ws) (hn : 11 < μ.2.2.1 := by decide) (hb1 : ev_b1 (a0 :: a1 :: a2 :: a3 :: a4 :: a5 :: a6 :: a7 :: a8 :: a9 :: a10 :: some (.int x) :: r) 11 = true := by rfl) : EV π μ E cells slots pc (a0 :: a1 :: a2 :: a3 :: a4 :: a5 :: a6 :: a7 :: a8 :: a9 :: a10 :: some (.int x) :: r) st ws := ev_incS pc d rfl hn hb1 k
theorem ev_iload_12 {x : Int32} {a0 a1 a2 a3 a4 a5 a6 a7 a8 a9 a10 a11 : Option Value} {r : List (Option Value)} (pc : Nat) (d : decode μ.2.1 pc = .ok (.iload 12, 2)) (k : EV π μ E cells slots (pc + 2) (a0 :: a1 :: a2 :: a3 :: a4 :: a5 :: a6 :: a7 :: a8 :: a9 :: a10 :: a11 :: some (.int x) :: r) (.int x :: st) ws) : EV π μ E cells slots pc (a0 :: a1 :: a2 :: a3 :: a4 :: a5 :: a6 :: a7 :: a8 :: a9 :: a10 :: a11 :: some (.int x) :: r) st ws := ev_ld (i := 12) rfl k (fun hx hb hl w => lv_iload hx hb d hl w)
theorem ev_lload_12 {x : Int64} {a0 a1 a2 a3 a4 a5 a6 a7 a8 a9 a10 a11 : Option Value} {r : List (Option Value)} (pc : Nat) (d : decode μ.2.1 pc = .ok (.lload 12, 2)) (k : EV π μ E cells slots (pc + 2) (a0 :: a1 :: a2 :: a3 :: a4 :: a5 :: a6 :: a7 :: a8 :: a9 :: a10 :: a11 :: some (.long x) :: r) (.long x :: st) ws) : EV π μ E cells slots pc (a0 :: a1 :: a2 :: a3 :: a4 :: a5 :: a6 :: a7 :: a8 :: a9 :: a10 :: a11 :: some (.long x) :: r) st ws := ev_ld (i := 12) rfl k (fun hx hb hl w => lv_lload hx hb d hl w)
theorem ev_aload_12 {x : Nat} {a0 a1 a2 a3 a4 a5 a6 a7 a8 a9 a10 a11 : Option Value} {r : List (Option Value)} (pc : Nat) (d : decode μ.2.1 pc = .ok (.aload 12, 2)) (k : EV π μ E cells slots (pc + 2) (a0 :: a1 :: a2 :: a3 :: a4 :: a5 :: a6 :: a7 :: a8 :: a9 :: a10 :: a11 :: some (.ref x) :: r) (.ref x :: st) ws) : EV π μ E cells slots pc (a0 :: a1 :: a2 :: a3 :: a4 :: a5 :: a6 :: a7 :: a8 :: a9 :: a10 :: a11 :: some (.ref x) :: r) st ws := ev_ld (i := 12) rfl k (fun hx hb hl w => lv_aload hx hb d hl w)
theorem ev_aloadN_12 {a0 a1 a2 a3 a4 a5 a6 a7 a8 a9 a10 a11 : Option Value} {r : List (Option Value)} (pc : Nat) (d : decode μ.2.1 pc = .ok (.aload 12, 2)) (k : EV π μ E cells slots (pc + 2) (a0 :: a1 :: a2 :: a3 :: a4 :: a5 :: a6 :: a7 :: a8 :: a9 :: a10 :: a11 :: some .null :: r) (.null :: st) ws) : EV π μ E cells slots pc (a0 :: a1 :: a2 :: a3 :: a4 :: a5 :: a6 :: a7 :: a8 :: a9 :: a10 :: a11 :: some .null :: r) st ws := ev_ld (i := 12) rfl k (fun hx hb hl w => lv_aloadN hx hb d hl w)
theorem ev_istore_12 {x : Int32} {a0 a1 a2 a3 a4 a5 a6 a7 a8 a9 a10 a11 : Option Value} {o : Option Value} {r : List (Option Value)} (pc : Nat) (d : decode μ.2.1 pc = .ok (.istore 12, 2)) (k : EV π μ E cells slots (pc + 2) (a0 :: a1 :: a2 :: a3 :: a4 :: a5 :: a6 :: a7 :: a8 :: a9 :: a10 :: a11 :: some (.int x) :: r) st ws) (hn : 12 < μ.2.2.1 := by decide) (hb1 : ev_b1 (a0 :: a1 :: a2 :: a3 :: a4 :: a5 :: a6 :: a7 :: a8 :: a9 :: a10 :: a11 :: o :: r) 12 = true := by rfl) : EV π μ E cells slots pc (a0 :: a1 :: a2 :: a3 :: a4 :: a5 :: a6 :: a7 :: a8 :: a9 :: a10 :: a11 :: o :: r) (.int x :: st) ws := ev_istS pc d hn hb1 k
theorem ev_astore_12 {x : Nat} {a0 a1 a2 a3 a4 a5 a6 a7 a8 a9 a10 a11 : Option Value} {o : Option Value} {r : List (Option Value)} (pc : Nat) (d : decode μ.2.1 pc = .ok (.astore 12, 2)) (k : EV π μ E cells slots (pc + 2) (a0 :: a1 :: a2 :: a3 :: a4 :: a5 :: a6 :: a7 :: a8 :: a9 :: a10 :: a11 :: some (.ref x) :: r) st ws) (hn : 12 < μ.2.2.1 := by decide) (hb1 : ev_b1 (a0 :: a1 :: a2 :: a3 :: a4 :: a5 :: a6 :: a7 :: a8 :: a9 :: a10 :: a11 :: o :: r) 12 = true := by rfl) : EV π μ E cells slots pc (a0 :: a1 :: a2 :: a3 :: a4 :: a5 :: a6 :: a7 :: a8 :: a9 :: a10 :: a11 :: o :: r) (.ref x :: st) ws := ev_astS pc d hn hb1 k
theorem ev_astoreN_12 {a0 a1 a2 a3 a4 a5 a6 a7 a8 a9 a10 a11 : Option Value} {o : Option Value} {r : List (Option Value)} (pc : Nat) (d : decode μ.2.1 pc = .ok (.astore 12, 2)) (k : EV π μ E cells slots (pc + 2) (a0 :: a1 :: a2 :: a3 :: a4 :: a5 :: a6 :: a7 :: a8 :: a9 :: a10 :: a11 :: some .null :: r) st ws) (hn : 12 < μ.2.2.1 := by decide) (hb1 : ev_b1 (a0 :: a1 :: a2 :: a3 :: a4 :: a5 :: a6 :: a7 :: a8 :: a9 :: a10 :: a11 :: o :: r) 12 = true := by rfl) : EV π μ E cells slots pc (a0 :: a1 :: a2 :: a3 :: a4 :: a5 :: a6 :: a7 :: a8 :: a9 :: a10 :: a11 :: o :: r) (.null :: st) ws := ev_astSN pc d hn hb1 k
theorem ev_iinc_12 {x : Int32} {n : Int} {a0 a1 a2 a3 a4 a5 a6 a7 a8 a9 a10 a11 : Option Value} {r : List (Option Value)} (pc : Nat) (d : decode μ.2.1 pc = .ok (.iinc 12 n, 3)) (k : EV π μ E cells slots (pc + 3) (a0 :: a1 :: a2 :: a3 :: a4 :: a5 :: a6 :: a7 :: a8 :: a9 :: a10 :: a11 :: some (.int (x + Int32.ofInt n)) :: r) st ws) (hn : 12 < μ.2.2.1 := by decide) (hb1 : ev_b1 (a0 :: a1 :: a2 :: a3 :: a4 :: a5 :: a6 :: a7 :: a8 :: a9 :: a10 :: a11 :: some (.int x) :: r) 12 = true := by rfl) : EV π μ E cells slots pc (a0 :: a1 :: a2 :: a3 :: a4 :: a5 :: a6 :: a7 :: a8 :: a9 :: a10 :: a11 :: some (.int x) :: r) st ws := ev_incS pc d rfl hn hb1 k
theorem ev_iload_13 {x : Int32} {a0 a1 a2 a3 a4 a5 a6 a7 a8 a9 a10 a11 a12 : Option Value} {r : List (Option Value)} (pc : Nat) (d : decode μ.2.1 pc = .ok (.iload 13, 2)) (k : EV π μ E cells slots (pc + 2) (a0 :: a1 :: a2 :: a3 :: a4 :: a5 :: a6 :: a7 :: a8 :: a9 :: a10 :: a11 :: a12 :: some (.int x) :: r) (.int x :: st) ws) : EV π μ E cells slots pc (a0 :: a1 :: a2 :: a3 :: a4 :: a5 :: a6 :: a7 :: a8 :: a9 :: a10 :: a11 :: a12 :: some (.int x) :: r) st ws := ev_ld (i := 13) rfl k (fun hx hb hl w => lv_iload hx hb d hl w)
theorem ev_lload_13 {x : Int64} {a0 a1 a2 a3 a4 a5 a6 a7 a8 a9 a10 a11 a12 : Option Value} {r : List (Option Value)} (pc : Nat) (d : decode μ.2.1 pc = .ok (.lload 13, 2)) (k : EV π μ E cells slots (pc + 2) (a0 :: a1 :: a2 :: a3 :: a4 :: a5 :: a6 :: a7 :: a8 :: a9 :: a10 :: a11 :: a12 :: some (.long x) :: r) (.long x :: st) ws) : EV π μ E cells slots pc (a0 :: a1 :: a2 :: a3 :: a4 :: a5 :: a6 :: a7 :: a8 :: a9 :: a10 :: a11 :: a12 :: some (.long x) :: r) st ws := ev_ld (i := 13) rfl k (fun hx hb hl w => lv_lload hx hb d hl w)
theorem ev_aload_13 {x : Nat} {a0 a1 a2 a3 a4 a5 a6 a7 a8 a9 a10 a11 a12 : Option Value} {r : List (Option Value)} (pc : Nat) (d : decode μ.2.1 pc = .ok (.aload 13, 2)) (k : EV π μ E cells slots (pc + 2) (a0 :: a1 :: a2 :: a3 :: a4 :: a5 :: a6 :: a7 :: a8 :: a9 :: a10 :: a11 :: a12 :: some (.ref x) :: r) (.ref x :: st) ws) : EV π μ E cells slots pc (a0 :: a1 :: a2 :: a3 :: a4 :: a5 :: a6 :: a7 :: a8 :: a9 :: a10 :: a11 :: a12 :: some (.ref x) :: r) st ws := ev_ld (i := 13) rfl k (fun hx hb hl w => lv_aload hx hb d hl w)
theorem ev_aloadN_13 {a0 a1 a2 a3 a4 a5 a6 a7 a8 a9 a10 a11 a12 : Option Value} {r : List (Option Value)} (pc : Nat) (d : decode μ.2.1 pc = .ok (.aload 13, 2)) (k : EV π μ E cells slots (pc + 2) (a0 :: a1 :: a2 :: a3 :: a4 :: a5 :: a6 :: a7 :: a8 :: a9 :: a10 :: a11 :: a12 :: some .null :: r) (.null :: st) ws) : EV π μ E cells slots pc (a0 :: a1 :: a2 :: a3 :: a4 :: a5 :: a6 :: a7 :: a8 :: a9 :: a10 :: a11 :: a12 :: some .null :: r) st ws := ev_ld (i := 13) rfl k (fun hx hb hl w => lv_aloadN hx hb d hl w)
theorem ev_istore_13 {x : Int32} {a0 a1 a2 a3 a4 a5 a6 a7 a8 a9 a10 a11 a12 : Option Value} {o : Option Value} {r : List (Option Value)} (pc : Nat) (d : decode μ.2.1 pc = .ok (.istore 13, 2)) (k : EV π μ E cells slots (pc + 2) (a0 :: a1 :: a2 :: a3 :: a4 :: a5 :: a6 :: a7 :: a8 :: a9 :: a10 :: a11 :: a12 :: some (.int x) :: r) st ws) (hn : 13 < μ.2.2.1 := by decide) (hb1 : ev_b1 (a0 :: a1 :: a2 :: a3 :: a4 :: a5 :: a6 :: a7 :: a8 :: a9 :: a10 :: a11 :: a12 :: o :: r) 13 = true := by rfl) : EV π μ E cells slots pc (a0 :: a1 :: a2 :: a3 :: a4 :: a5 :: a6 :: a7 :: a8 :: a9 :: a10 :: a11 :: a12 :: o :: r) (.int x :: st) ws := ev_istS pc d hn hb1 k
theorem ev_astore_13 {x : Nat} {a0 a1 a2 a3 a4 a5 a6 a7 a8 a9 a10 a11 a12 : Option Value} {o : Option Value} {r : List (Option Value)} (pc : Nat) (d : decode μ.2.1 pc = .ok (.astore 13, 2)) (k : EV π μ E cells slots (pc + 2) (a0 :: a1 :: a2 :: a3 :: a4 :: a5 :: a6 :: a7 :: a8 :: a9 :: a10 :: a11 :: a12 :: some (.ref x) :: r) st ws) (hn : 13 < μ.2.2.1 := by decide) (hb1 : ev_b1 (a0 :: a1 :: a2 :: a3 :: a4 :: a5 :: a6 :: a7 :: a8 :: a9 :: a10 :: a11 :: a12 :: o :: r) 13 = true := by rfl) : EV π μ E cells slots pc (a0 :: a1 :: a2 :: a3 :: a4 :: a5 :: a6 :: a7 :: a8 :: a9 :: a10 :: a11 :: a12 :: o :: r) (.ref x :: st) ws := ev_astS pc d hn hb1 k
theorem ev_astoreN_13 {a0 a1 a2 a3 a4 a5 a6 a7 a8 a9 a10 a11 a12 : Option Value} {o : Option Value} {r : List (Option Value)} (pc : Nat) (d : decode μ.2.1 pc = .ok (.astore 13, 2)) (k : EV π μ E cells slots (pc + 2) (a0 :: a1 :: a2 :: a3 :: a4 :: a5 :: a6 :: a7 :: a8 :: a9 :: a10 :: a11 :: a12 :: some .null :: r) st ws) (hn : 13 < μ.2.2.1 := by decide) (hb1 : ev_b1 (a0 :: a1 :: a2 :: a3 :: a4 :: a5 :: a6 :: a7 :: a8 :: a9 :: a10 :: a11 :: a12 :: o :: r) 13 = true := by rfl) : EV π μ E cells slots pc (a0 :: a1 :: a2 :: a3 :: a4 :: a5 :: a6 :: a7 :: a8 :: a9 :: a10 :: a11 :: a12 :: o :: r) (.null :: st) ws := ev_astSN pc d hn hb1 k
theorem ev_iinc_13 {x : Int32} {n : Int} {a0 a1 a2 a3 a4 a5 a6 a7 a8 a9 a10 a11 a12 : Option Value} {r : List (Option Value)} (pc : Nat) (d : decode μ.2.1 pc = .ok (.iinc 13 n, 3)) (k : EV π μ E cells slots (pc + 3) (a0 :: a1 :: a2 :: a3 :: a4 :: a5 :: a6 :: a7 :: a8 :: a9 :: a10 :: a11 :: a12 :: some (.int (x + Int32.ofInt n)) :: r) st ws) (hn : 13 < μ.2.2.1 := by decide) (hb1 : ev_b1 (a0 :: a1 :: a2 :: a3 :: a4 :: a5 :: a6 :: a7 :: a8 :: a9 :: a10 :: a11 :: a12 :: some (.int x) :: r) 13 = true := by rfl) : EV π μ E cells slots pc (a0 :: a1 :: a2 :: a3 :: a4 :: a5 :: a6 :: a7 :: a8 :: a9 :: a10 :: a11 :: a12 :: some (.int x) :: r) st ws := ev_incS pc d rfl hn hb1 k
theorem ev_iload_14 {x : Int32} {a0 a1 a2 a3 a4 a5 a6 a7 a8 a9 a10 a11 a12 a13 : Option Value} {r : List (Option Value)} (pc : Nat) (d : decode μ.2.1 pc = .ok (.iload 14, 2)) (k : EV π μ E cells slots (pc + 2) (a0 :: a1 :: a2 :: a3 :: a4 :: a5 :: a6 :: a7 :: a8 :: a9 :: a10 :: a11 :: a12 :: a13 :: some (.int x) :: r) (.int x :: st) ws) : EV π μ E cells slots pc (a0 :: a1 :: a2 :: a3 :: a4 :: a5 :: a6 :: a7 :: a8 :: a9 :: a10 :: a11 :: a12 :: a13 :: some (.int x) :: r) st ws := ev_ld (i := 14) rfl k (fun hx hb hl w => lv_iload hx hb d hl w)
theorem ev_lload_14 {x : Int64} {a0 a1 a2 a3 a4 a5 a6 a7 a8 a9 a10 a11 a12 a13 : Option Value} {r : List (Option Value)} (pc : Nat) (d : decode μ.2.1 pc = .ok (.lload 14, 2)) (k : EV π μ E cells slots (pc + 2) (a0 :: a1 :: a2 :: a3 :: a4 :: a5 :: a6 :: a7 :: a8 :: a9 :: a10 :: a11 :: a12 :: a13 :: some (.long x) :: r) (.long x :: st) ws) : EV π μ E cells slots pc (a0 :: a1 :: a2 :: a3 :: a4 :: a5 :: a6 :: a7 :: a8 :: a9 :: a10 :: a11 :: a12 :: a13 :: some (.long x) :: r) st ws := ev_ld (i := 14) rfl k (fun hx hb hl w => lv_lload hx hb d hl w)
theorem ev_aload_14 {x : Nat} {a0 a1 a2 a3 a4 a5 a6 a7 a8 a9 a10 a11 a12 a13 : Option Value} {r : List (Option Value)} (pc : Nat) (d : decode μ.2.1 pc = .ok (.aload 14, 2)) (k : EV π μ E cells slots (pc + 2) (a0 :: a1 :: a2 :: a3 :: a4 :: a5 :: a6 :: a7 :: a8 :: a9 :: a10 :: a11 :: a12 :: a13 :: some (.ref x) :: r) (.ref x :: st) ws) : EV π μ E cells slots pc (a0 :: a1 :: a2 :: a3 :: a4 :: a5 :: a6 :: a7 :: a8 :: a9 :: a10 :: a11 :: a12 :: a13 :: some (.ref x) :: r) st ws := ev_ld (i := 14) rfl k (fun hx hb hl w => lv_aload hx hb d hl w)
theorem ev_aloadN_14 {a0 a1 a2 a3 a4 a5 a6 a7 a8 a9 a10 a11 a12 a13 : Option Value} {r : List (Option Value)} (pc : Nat) (d : decode μ.2.1 pc = .ok (.aload 14, 2)) (k : EV π μ E cells slots (pc + 2) (a0 :: a1 :: a2 :: a3 :: a4 :: a5 :: a6 :: a7 :: a8 :: a9 :: a10 :: a11 :: a12 :: a13 :: some .null :: r) (.null :: st) ws) : EV π μ E cells slots pc (a0 :: a1 :: a2 :: a3 :: a4 :: a5 :: a6 :: a7 :: a8 :: a9 :: a10 :: a11 :: a12 :: a13 :: some .null :: r) st ws := ev_ld (i := 14) rfl k (fun hx hb hl w => lv_aloadN hx hb d hl w)
theorem ev_istore_14 {x : Int32} {a0 a1 a2 a3 a4 a5 a6 a7 a8 a9 a10 a11 a12 a13 : Option Value} {o : Option Value} {r : List (Option Value)} (pc : Nat) (d : decode μ.2.1 pc = .ok (.istore 14, 2)) (k : EV π μ E cells slots (pc + 2) (a0 :: a1 :: a2 :: a3 :: a4 :: a5 :: a6 :: a7 :: a8 :: a9 :: a10 :: a11 :: a12 :: a13 :: some (.int x) :: r) st ws) (hn : 14 < μ.2.2.1 := by decide) (hb1 : ev_b1 (a0 :: a1 :: a2 :: a3 :: a4 :: a5 :: a6 :: a7 :: a8 :: a9 :: a10 :: a11 :: a12 :: a13 :: o :: r) 14 = true := by rfl) : EV π μ E cells slots pc (a0 :: a1 :: a2 :: a3 :: a4 :: a5 :: a6 :: a7 :: a8 :: a9 :: a10 :: a11 :: a12 :: a13 :: o :: r) (.int x :: st) ws := ev_istS pc d hn hb1 k
theorem ev_astore_14 {x : Nat} {a0 a1 a2 a3 a4 a5 a6 a7 a8 a9 a10 a11 a12 a13 : Option Value} {o : Option Value} {r : List (Option Value)} (pc : Nat) (d : decode μ.2.1 pc = .ok (.astore 14, 2)) (k : EV π μ E cells slots (pc + 2) (a0 :: a1 :: a2 :: a3 :: a4 :: a5 :: a6 :: a7 :: a8 :: a9 :: a10 :: a11 :: a12 :: a13 :: some (.ref x) :: r) st ws) (hn : 14 < μ.2.2.1 := by decide) (hb1 : ev_b1 (a0 :: a1 :: a2 :: a3 :: a4 :: a5 :: a6 :: a7 :: a8 :: a9 :: a10 :: a11 :: a12 :: a13 :: o :: r) 14 = true := by rfl) : EV π μ E cells slots pc (a0 :: a1 :: a2 :: a3 :: a4 :: a5 :: a6 :: a7 :: a8 :: a9 :: a10 :: a11 :: a12 :: a13 :: o :: r) (.ref x :: st) ws := ev_astS pc d hn hb1 k
theorem ev_astoreN_14 {a0 a1 a2 a3 a4 a5 a6 a7 a8 a9 a10 a11 a12 a13 : Option Value} {o : Option Value} {r : List (Option Value)} (pc : Nat) (d : decode μ.2.1 pc = .ok (.astore 14, 2)) (k : EV π μ E cells slots (pc + 2) (a0 :: a1 :: a2 :: a3 :: a4 :: a5 :: a6 :: a7 :: a8 :: a9 :: a10 :: a11 :: a12 :: a13 :: some .null :: r) st ws) (hn : 14 < μ.2.2.1 := by decide) (hb1 : ev_b1 (a0 :: a1 :: a2 :: a3 :: a4 :: a5 :: a6 :: a7 :: a8 :: a9 :: a10 :: a11 :: a12 :: a13 :: o :: r) 14 = true := by rfl) : EV π μ E cells slots pc (a0 :: a1 :: a2 :: a3 :: a4 :: a5 :: a6 :: a7 :: a8 :: a9 :: a10 :: a11 :: a12 :: a13 :: o :: r) (.null :: st) ws := ev_astSN pc d hn hb1 k
theorem ev_iinc_14 {x : Int32} {n : Int} {a0 a1 a2 a3 a4 a5 a6 a7 a8 a9 a10 a11 a12 a13 : Option Value} {r : List (Option Value)} (pc : Nat) (d : decode μ.2.1 pc = .ok (.iinc 14 n, 3)) (k : EV π μ E cells slots (pc + 3) (a0 :: a1 :: a2 :: a3 :: a4 :: a5 :: a6 :: a7 :: a8 :: a9 :: a10 :: a11 :: a12 :: a13 :: some (.int (x + Int32.ofInt n)) :: r) st ws) (hn : 14 < μ.2.2.1 := by decide) (hb1 : ev_b1 (a0 :: a1 :: a2 :: a3 :: a4 :: a5 :: a6 :: a7 :: a8 :: a9 :: a10 :: a11 :: a12 :: a13 :: some (.int x) :: r) 14 = true := by rfl) : EV π μ E cells slots pc (a0 :: a1 :: a2 :: a3 :: a4 :: a5 :: a6 :: a7 :: a8 :: a9 :: a10 :: a11 :: a12 :: a13 :: some (.int x) :: r) st ws := ev_incS pc d rfl hn hb1 k
theorem ev_iload_15 {x : Int32} {a0 a1 a2 a3 a4 a5 a6 a7 a8 a9 a10 a11 a12 a13 a14 : Option Value} {r : List (Option Value)} (pc : Nat) (d : decode μ.2.1 pc = .ok (.iload 15, 2)) (k : EV π μ E cells slots (pc + 2) (a0 :: a1 :: a2 :: a3 :: a4 :: a5 :: a6 :: a7 :: a8 :: a9 :: a10 :: a11 :: a12 :: a13 :: a14 :: some (.int x) :: r) (.int x :: st) ws) : EV π μ E cells slots pc (a0 :: a1 :: a2 :: a3 :: a4 :: a5 :: a6 :: a7 :: a8 :: a9 :: a10 :: a11 :: a12 :: a13 :: a14 :: some (.int x) :: r) st ws := ev_ld (i := 15) rfl k (fun hx hb hl w => lv_iload hx hb d hl w)
theorem ev_lload_15 {x : Int64} {a0 a1 a2 a3 a4 a5 a6 a7 a8 a9 a10 a11 a12 a13 a14 : Option Value} {r : List (Option Value)} (pc : Nat) (d : decode μ.2.1 pc = .ok (.lload 15, 2)) (k : EV π μ E cells slots (pc + 2) (a0 :: a1 :: a2 :: a3 :: a4 :: a5 :: a6 :: a7 :: a8 :: a9 :: a10 :: a11 :: a12 :: a13 :: a14 :: some (.long x) :: r) (.long x :: st) ws) : EV π μ E cells slots pc (a0 :: a1 :: a2 :: a3 :: a4 :: a5 :: a6 :: a7 :: a8 :: a9 :: a10 :: a11 :: a12 :: a13 :: a14 :: some (.long x) :: r) st ws := ev_ld (i := 15) rfl k (fun hx hb hl w => lv_lload hx hb d hl w)
theorem ev_aload_15 {x : Nat} {a0 a1 a2 a3 a4 a5 a6 a7 a8 a9 a10 a11 a12 a13 a14 : Option Value} {r : List (Option Value)} (pc : Nat) (d : decode μ.2.1 pc = .ok (.aload 15, 2)) (k : EV π μ E cells slots (pc + 2) (a0 :: a1 :: a2 :: a3 :: a4 :: a5 :: a6 :: a7 :: a8 :: a9 :: a10 :: a11 :: a12 :: a13 :: a14 :: some (.ref x) :: r) (.ref x :: st) ws) : EV π μ E cells slots pc (a0 :: a1 :: a2 :: a3 :: a4 :: a5 :: a6 :: a7 :: a8 :: a9 :: a10 :: a11 :: a12 :: a13 :: a14 :: some (.ref x) :: r) st ws := ev_ld (i := 15) rfl k (fun hx hb hl w => lv_aload hx hb d hl w)
theorem ev_aloadN_15 {a0 a1 a2 a3 a4 a5 a6 a7 a8 a9 a10 a11 a12 a13 a14 : Option Value} {r : List (Option Value)} (pc : Nat) (d : decode μ.2.1 pc = .ok (.aload 15, 2)) (k : EV π μ E cells slots (pc + 2) (a0 :: a1 :: a2 :: a3 :: a4 :: a5 :: a6 :: a7 :: a8 :: a9 :: a10 :: a11 :: a12 :: a13 :: a14 :: some .null :: r) (.null :: st) ws) : EV π μ E cells slots pc (a0 :: a1 :: a2 :: a3 :: a4 :: a5 :: a6 :: a7 :: a8 :: a9 :: a10 :: a11 :: a12 :: a13 :: a14 :: some .null :: r) st ws := ev_ld (i := 15) rfl k (fun hx hb hl w => lv_aloadN hx hb d hl w)
theorem ev_istore_15 {x : Int32} {a0 a1 a2 a3 a4 a5 a6 a7 a8 a9 a10 a11 a12 a13 a14 : Option Value} {o : Option Value} {r : List (Option Value)} (pc : Nat) (d : decode μ.2.1 pc = .ok (.istore 15, 2)) (k : EV π μ E cells slots (pc + 2) (a0 :: a1 :: a2 :: a3 :: a4 :: a5 :: a6 :: a7 :: a8 :: a9 :: a10 :: a11 :: a12 :: a13 :: a14 :: some (.int x) :: r) st ws) (hn : 15 < μ.2.2.1 := by decide) (hb1 : ev_b1 (a0 :: a1 :: a2 :: a3 :: a4 :: a5 :: a6 :: a7 :: a8 :: a9 :: a10 :: a11 :: a12 :: a13 :: a14 :: o :: r) 15 = true := by rfl) : EV π μ E cells slots pc (a0 :: a1 :: a2 :: a3 :: a4 :: a5 :: a6 :: a7 :: a8 :: a9 :: a10 :: a11 :: a12 :: a13 :: a14 :: o :: r) (.int x :: st) ws := ev_istS pc d hn hb1 k
theorem ev_astore_15 {x : Nat} {a0 a1 a2 a3 a4 a5 a6 a7 a8 a9 a10 a11 a12 a13 a14 : Option Value} {o : Option Value} {r : List (Option Value)} (pc : Nat) (d : decode μ.2.1 pc = .ok (.astore 15, 2)) (k : EV π μ E cells slots (pc + 2) (a0 :: a1 :: a2 :: a3 :: a4 :: a5 :: a6 :: a7 :: a8 :: a9 :: a10 :: a11 :: a12 :: a13 :: a14 :: some (.ref x) :: r) st ws) (hn : 15 < μ.2.2.1 := by decide) (hb1 : ev_b1 (a0 :: a1 :: a2 :: a3 :: a4 :: a5 :: a6 :: a7 :: a8 :: a9 :: a10 :: a11 :: a12 :: a13 :: a14 :: o :: r) 15 = true := by rfl) : EV π μ E cells slots pc (a0 :: a1 :: a2 :: a3 :: a4 :: a5 :: a6 :: a7 :: a8 :: a9 :: a10 :: a11 :: a12 :: a13 :: a14 :: o :: r) (.ref x :: st) ws := ev_astS pc d hn hb1 k
theorem ev_astoreN_15 {a0 a1 a2 a3 a4 a5 a6 a7 a8 a9 a10 a11 a12 a13 a14 : Option Value} {o : Option Value} {r : List (Option Value)} (pc : Nat) (d : decode μ.2.1 pc = .ok (.astore 15, 2)) (k : EV π μ E cells slots (pc + 2) (a0 :: a1 :: a2 :: a3 :: a4 :: a5 :: a6 :: a7 :: a8 :: a9 :: a10 :: a11 :: a12 :: a13 :: a14 :: some .null :: r) st ws) (hn : 15 < μ.2.2.1 := by decide) (hb1 : ev_b1 (a0 :: a1 :: a2 :: a3 :: a4 :: a5 :: a6 :: a7 :: a8 :: a9 :: a10 :: a11 :: a12 :: a13 :: a14 :: o :: r) 15 = true := by rfl) : EV π μ E cells slots pc (a0 :: a1 :: a2 :: a3 :: a4 :: a5 :: a6 :: a7 :: a8 :: a9 :: a10 :: a11 :: a12 :: a13 :: a14 :: o :: r) (.null :: st) ws := ev_astSN pc d hn hb1 k
theorem ev_iinc_15 {x : Int32} {n : Int} {a0 a1 a2 a3 a4 a5 a6 a7 a8 a9 a10 a11 a12 a13 a14 : Option Value} {r : List (Option Value)} (pc : Nat) (d : decode μ.2.1 pc = .ok (.iinc 15 n, 3)) (k : EV π μ E cells slots (pc + 3) (a0 :: a1 :: a2 :: a3 :: a4 :: a5 :: a6 :: a7 :: a8 :: a9 :: a10 :: a11 :: a12 :: a13 :: a14 :: some (.int (x + Int32.ofInt n)) :: r) st ws) (hn : 15 < μ.2.2.1 := by decide) (hb1 : ev_b1 (a0 :: a1 :: a2 :: a3 :: a4 :: a5 :: a6 :: a7 :: a8 :: a9 :: a10 :: a11 :: a12 :: a13 :: a14 :: some (.int x) :: r) 15 = true := by rfl) : EV π μ E cells slots pc (a0 :: a1 :: a2 :: a3 :: a4 :: a5 :: a6 :: a7 :: a8 :: a9 :: a10 :: a11 :: a12 :: a13 :: a14 :: some (.int x) :: r) st ws := ev_incS pc d rfl hn hb1 k
end EVr
end
section
/-! heap, calls, returns, contracts over EV -/
def ev_sv : Slot → Option Value
  | .val v => some v
  | _ => none
def ev_lv (vs : List Value) (n : Nat) : List (Option Value) := (lg_sl vs ++ List.replicate (n - (lg_sl vs).length) Slot.unset).map ev_sv
theorem ev_entry (vs : List Value) {n : Nat} (h : (lg_sl vs).length ≤ n) : ev_ls ((lg_sl vs ++ List.replicate (n - (lg_sl vs).length) Slot.unset).toArray) n (ev_lv vs n) := by
  have h0 := lv_entry vs h
  refine ⟨h0.1, h0.2.1, fun i v hi => ?_⟩
  rw [ev_lv, List.getElem?_map] at hi
  rw [List.getElem?_toArray]
  cases hx : (lg_sl vs ++ List.replicate (n - (lg_sl vs).length) Slot.unset)[i]? with
  | none => rw [hx] at hi; cases hi
  | some z =>
    rw [hx] at hi
    cases z with
    | val w =>
      have : w = v := by simpa [ev_sv] using hi
      rw [this]
    | unset => simp [ev_sv] at hi
    | second => simp [ev_sv] at hi
def ev_Q (π : ev_P) (Q : Option Value → va_W → Prop) (A : Nat → Prop) : Array Value → State → Outcome → State → Prop := fun _ st oc t =>
  (∃ (r : Option Value) (w : va_W), oc = .returned r ∧ Q r w ∧ va_P π.2.1 π.2.2.1 w t.heap ∧ va_D A w) ∧ va_F A st t
def ev_E (π : ev_P) (mc ms : Nat) (Q : Option Value → va_W → Prop) : ev_T := fun below args s A => MQ below (ev_Q π Q A) args s mc ms A
def ev_Pc (π : ev_P) (av : List Value) (w0 : va_W) (sz : Nat) : Array Value → State → Prop := va_Pc av (fun U => U.heap.size = sz ∧ va_P π.2.1 π.2.2.1 w0 U.heap ∧ va_K π.2.1 π.2.2.1 π.2.2.2.1 U ∧ va_D (fun _ => True) w0 ∧ π.2.2.2.2 (va_A w0 sz) U U.heap)
def MT (π : ev_P) (μ : ev_M) (mc ms : Nat) (av : List Value) (w0 : va_W) (Q : Option Value → va_W → Prop) : Prop :=
  ∀ sz : Nat, Met π.1 μ.1 μ.2.2.2.2.1 μ.2.2.2.2.2 (ev_Pc π av w0 sz) (ev_Q π Q (va_A w0 sz)) mc ms (va_A w0 sz)
def ev_Zok (Z : (Nat → Prop) → State → Heap → Prop) : Prop :=
  (∀ (A : Nat → Prop) (s U : State) (H : Heap), s.WarmedH U.vm → Z A s H → Z A U H) ∧ (∀ (A : Nat → Prop) (U : State) (H H1 : Heap), Z A U H → (∀ a : Nat, a < H.size → ¬ A a → H1[a]? = H[a]?) → Z A U H1) ∧
  (∀ (A B : Nat → Prop) (U : State) (H : Heap), Z A U H → (∀ q, B q → A q) → Z B U H) ∧ (∀ (A : Nat → Prop) (u U : State) (H : Heap), u.vm = U.vm → Z A u H → Z A U H)
theorem ev_Zok_tt : ev_Zok (fun _ _ _ => True) := ⟨fun _ _ _ _ _ _ => trivial, fun _ _ _ _ _ _ => trivial, fun _ _ _ _ _ _ => trivial, fun _ _ _ _ _ _ => trivial⟩
theorem mt_of {π : ev_P} {μ : ev_M} {mc ms : Nat} {av : List Value} {w0 : va_W} {Q : Option Value → va_W → Prop} {ws' : List Cond} (hy : plainName μ.1.cls = true) (hw : μ.2.2.2.2.1 = Cond.code μ.1 μ.2.1 μ.2.2.1 μ.2.2.2.1 :: ws') (hlen : (lg_sl av).length ≤ μ.2.2.1)
    (k : EV π μ (ev_E π mc ms Q) 0 0 0 (ev_lv av μ.2.2.1) [] w0) : MT π μ mc ms av w0 Q := by
  intro sz
  refine Met.ofW (cc := μ.2.1) (maxL := μ.2.2.1) (ret := μ.2.2.2.1) hy hw ?_
  intro p e s m args below meth c s₁ B hml hv
  obtain ⟨rfl, hsz, hP, hK, hD0, hZ⟩ := hv
  have hts := atoms_spec (ws := μ.2.2.2.2.1) B.pre
  have hown := findClass_of_methodNamed B.named
  have hnm := (name_of_methodNamed B.named B.method).1
  subst hsz
  have hD := hD0.self (sz := s.heap.size)
  rw [lg_entry_eq]
  exact k p e s m _ below meth c s.heap [] _ (va_A w0 s.heap.size) ⟨B.exec, B.bytes, hml, hown, hts, B.notSynchronized, B.returns, hnm⟩ (ev_entry av hlen) hK hZ hP hD va_S.rf (fun q h => Or.inr h)
/-- a field of an object: its class's number, its place there, the words that link it -/
def ev_F (cl : List vw_C) (Ts : List Cond) (own : String) (idx ci k : Nat) : Prop := ∃ (C : String) (T : u_T) (N : Nat), cl[ci]? = some (C, T, N) ∧ (∀ w ∈ u_ws C T N, w ∈ Ts) ∧ k < N ∧ Cond.fieldLink own idx (T k).1 (T k).2.1 (T k).2.2.1 ∈ Ts
def ev_FP (cl : List vw_C) (Ts : List Cond) (own : String) (idx ci k : Nat) (ty : FieldType) : Prop := ∃ (C : String) (T : u_T) (N : Nat) (ty0 : Nat → FieldType), cl[ci]? = some (C, T, N) ∧ (∀ w ∈ u_ws C T N, w ∈ Ts) ∧ k < N ∧ Cond.fieldLink own idx (T k).1 (T k).2.1 (T k).2.2.1 ∈ Ts ∧
  (∀ k, k < N → parseFieldDescriptor (T k).2.2.1 = some (ty0 k)) ∧ (∀ a, a < N → ∀ b, b < N → a ≠ b → (T a).2.1 ≠ (T b).2.1) ∧ (T k).2.2.2 = false ∧ parseFieldDescriptor (T k).2.2.1 = some ty
section EVh
variable {π : ev_P} {μ : ev_M} {E : ev_T} {cells slots : Nat} {lv : List (Option Value)} {st : List Value} {ws : va_W}
theorem ev_get {idx ci a : Nat} {fs : List Value} {v : Value} (pc q0 k : Nat) (d : decode μ.2.1 pc = .ok (.getfield idx, 3)) (hF : ev_F π.2.2.1 μ.2.2.2.2.1 μ.1.cls idx ci k) (he : ws[q0]? = some (a, .inr (ci, fs))) (hv : fs[k]? = some v)
    (kk : EV π μ E cells slots (pc + 3) lv (v :: st) ws) : EV π μ E cells slots pc lv (.ref a :: st) ws := by
  obtain ⟨C, T, N, hc, hin, hk, hlk⟩ := hF
  intro p e s m args below meth c H locs ls A X hl hK hZ hP hD hS hA
  exact va_get (C := C) (T := T) (N := N) X.1 X.2.1 X.2.2.2.2.1 hin X.2.2.2.1 hK hP q0 he hc k hk (X.2.2.2.2.1 _ hlk) (fun _ h => h) hv d (kk p e s m args below meth c H locs ls A X hl hK hZ hP hD hS hA)
theorem ev_put {idx ci a : Nat} {fs : List Value} {v : Value} {ty : FieldType} (pc q0 k : Nat) (d : decode μ.2.1 pc = .ok (.putfield idx, 3)) (hF : ev_FP π.2.2.1 μ.2.2.2.2.1 μ.1.cls idx ci k ty) (he : ws[q0]? = some (a, .inr (ci, fs))) (hl0 : k < fs.length) (hn : narrow ty v = v) (hfit : fits ty v = true)
    (kk : EV π μ E cells slots (pc + 3) lv st (ws.set q0 (a, .inr (ci, fs.set k v)))) : EV π μ E cells slots pc lv (v :: .ref a :: st) ws := by
  obtain ⟨C, T, N, ty0, hc, hin, hk, hlk, hty, hnm, hfin, hd⟩ := hF
  intro p e s m args below meth c H locs ls A X hl hK hZ hP hD hS hA
  exact va_put (C := C) (T := T) (N := N) X.1 X.2.1 X.2.2.2.2.1 hin ty0 hty hnm X.2.2.2.1 hK hP hD hS q0 he hc k hk (X.2.2.2.2.1 _ hlk) (fun _ h => h) hfin hd hn hfit hl0 d (fun H1 locs1 hP1 hD1 hS1 => kk p e s m args below meth c H1 locs1 ls A X hl hK hZ hP1 hD1 hS1 hA)
theorem ev_iald {a : Nat} {cA : ClassId} {n : Nat} {f : Nat → Int32} {i : Int32} (pc q0 t0 : Nat) (d : decode μ.2.1 pc = .ok (.iaload, 1)) (ha : ws[q0]? = some (a, .inl (cA, n, .inl f))) (ht : π.2.2.2.1[t0]? = some (cA, .int)) (hin : vp_in i n)
    (kk : EV π μ E cells slots (pc + 1) lv (.int (f i.toNatClampNeg) :: st) ws) : EV π μ E cells slots pc lv (.int i :: .ref a :: st) ws :=
  fun p e s m args below meth c H locs ls A X hl hK hZ hP hD hS hA => va_iald X.1 X.2.1 hK hP q0 t0 ha ht hin d (kk p e s m args below meth c H locs ls A X hl hK hZ hP hD hS hA)
theorem ev_zald {a : Nat} {cA : ClassId} {n : Nat} {f : Nat → Int32} {i : Int32} (pc q0 t0 : Nat) (d : decode μ.2.1 pc = .ok (.baload, 1)) (ha : ws[q0]? = some (a, .inl (cA, n, .inl f))) (ht : π.2.2.2.1[t0]? = some (cA, .boolean)) (hin : vp_in i n)
    (kk : EV π μ E cells slots (pc + 1) lv (.int (f i.toNatClampNeg) :: st) ws) : EV π μ E cells slots pc lv (.int i :: .ref a :: st) ws :=
  fun p e s m args below meth c H locs ls A X hl hK hZ hP hD hS hA => va_zald X.1 X.2.1 hK hP q0 t0 ha ht hin d (kk p e s m args below meth c H locs ls A X hl hK hZ hP hD hS hA)
theorem ev_lald {a : Nat} {cA : ClassId} {n : Nat} {f : Nat → Int64} {i : Int32} (pc q0 t0 : Nat) (d : decode μ.2.1 pc = .ok (.laload, 1)) (ha : ws[q0]? = some (a, .inl (cA, n, .inr (.inl f)))) (ht : π.2.2.2.1[t0]? = some (cA, .long)) (hin : vp_in i n)
    (kk : EV π μ E cells slots (pc + 1) lv (.long (f i.toNatClampNeg) :: st) ws) : EV π μ E cells slots pc lv (.int i :: .ref a :: st) ws :=
  fun p e s m args below meth c H locs ls A X hl hK hZ hP hD hS hA => va_lald X.1 X.2.1 hK hP q0 t0 ha ht hin d (kk p e s m args below meth c H locs ls A X hl hK hZ hP hD hS hA)
theorem ev_aald {a : Nat} {cA : ClassId} {C : String} {n : Nat} {f : Nat → Option Nat} {i : Int32} (pc q0 t0 : Nat) (d : decode μ.2.1 pc = .ok (.aaload, 1)) (ha : ws[q0]? = some (a, .inl (cA, n, .inr (.inr (.inr (.inr f)))))) (ht : π.2.2.2.1[t0]? = some (cA, .object C)) (hin : vp_in i n)
    (kk : EV π μ E cells slots (pc + 1) lv (va_rf (f i.toNatClampNeg) :: st) ws) : EV π μ E cells slots pc lv (.int i :: .ref a :: st) ws :=
  fun p e s m args below meth c H locs ls A X hl hK hZ hP hD hS hA => va_aldq X.1 X.2.1 hK hP q0 t0 ha ht hin d (kk p e s m args below meth c H locs ls A X hl hK hZ hP hD hS hA)
theorem ev_alen {a : Nat} {cA : ClassId} {x : vp_A} {ty : FieldType} {v : Int32} (pc q0 t0 : Nat) (d : decode μ.2.1 pc = .ok (.arraylength, 1)) (ha : ws[q0]? = some (a, .inl (cA, x))) (ht : π.2.2.2.1[t0]? = some (cA, ty)) (hv : Int32.ofNat x.1 = v)
    (kk : EV π μ E cells slots (pc + 1) lv (.int v :: st) ws) : EV π μ E cells slots pc lv (.ref a :: st) ws :=
  fun p e s m args below meth c H locs ls A X hl hK hZ hP hD hS hA => va_alen X.1 X.2.1 hK hP q0 t0 ha ht hv d (kk p e s m args below meth c H locs ls A X hl hK hZ hP hD hS hA)
theorem ev_iast {a : Nat} {cA : ClassId} {n : Nat} {f : Nat → Int32} {i x : Int32} (pc q0 t0 : Nat) (d : decode μ.2.1 pc = .ok (.iastore, 1)) (ha : ws[q0]? = some (a, .inl (cA, n, .inl f))) (ht : π.2.2.2.1[t0]? = some (cA, .int)) (hin : vp_in i n)
    (kk : EV π μ E cells slots (pc + 1) lv st (ws.set q0 (a, .inl (cA, n, .inl (upd f i.toNatClampNeg x))))) : EV π μ E cells slots pc lv (.int x :: .int i :: .ref a :: st) ws :=
  fun p e s m args below meth c H locs ls A X hl hK hZ hP hD hS hA => va_iast X.1 X.2.1 hK hP hD hS q0 t0 ha ht hin d (fun H1 locs1 hP1 hD1 hS1 => kk p e s m args below meth c H1 locs1 ls A X hl hK hZ hP1 hD1 hS1 hA)
theorem ev_zast {a : Nat} {cA : ClassId} {n : Nat} {f : Nat → Int32} {i x : Int32} (pc q0 t0 : Nat) (d : decode μ.2.1 pc = .ok (.bastore, 1)) (ha : ws[q0]? = some (a, .inl (cA, n, .inl f))) (ht : π.2.2.2.1[t0]? = some (cA, .boolean)) (hin : vp_in i n)
    (kk : EV π μ E cells slots (pc + 1) lv st (ws.set q0 (a, .inl (cA, n, .inl (upd f i.toNatClampNeg (vp_nar .boolean x)))))) : EV π μ E cells slots pc lv (.int x :: .int i :: .ref a :: st) ws :=
  fun p e s m args below meth c H locs ls A X hl hK hZ hP hD hS hA => va_zast X.1 X.2.1 hK hP hD hS q0 t0 ha ht hin d (fun H1 locs1 hP1 hD1 hS1 => kk p e s m args below meth c H1 locs1 ls A X hl hK hZ hP1 hD1 hS1 hA)
theorem ev_last {a : Nat} {cA : ClassId} {n : Nat} {f : Nat → Int64} {i : Int32} {x : Int64} (pc q0 t0 : Nat) (d : decode μ.2.1 pc = .ok (.lastore, 1)) (ha : ws[q0]? = some (a, .inl (cA, n, .inr (.inl f)))) (ht : π.2.2.2.1[t0]? = some (cA, .long)) (hin : vp_in i n)
    (kk : EV π μ E cells slots (pc + 1) lv st (ws.set q0 (a, .inl (cA, n, .inr (.inl (vp_updL f i.toNatClampNeg x)))))) : EV π μ E cells slots pc lv (.long x :: .int i :: .ref a :: st) ws :=
  fun p e s m args below meth c H locs ls A X hl hK hZ hP hD hS hA => va_last X.1 X.2.1 hK hP hD hS q0 t0 ha ht hin d (fun H1 locs1 hP1 hD1 hS1 => kk p e s m args below meth c H1 locs1 ls A X hl hK hZ hP1 hD1 hS1 hA)
/-! returns -/
theorem ev_iret {Q : Option Value → va_W → Prop} {v : Int32} (pc : Nat) (d : decode μ.2.1 pc = .ok (.ireturn, 1)) (hr : μ.2.2.2.1 = some .int) (hq : Q (some (.int v)) ws) : EV π μ (ev_E π cells slots Q) cells slots pc lv [.int v] ws :=
  fun p e s m args below meth c H locs ls A X hl hK hZ hP hD hS hA => W.iret X.1 X.2.1 (X.2.2.2.2.2.2.1.trans hr) (fun t ht hW => ⟨⟨_, ws, rfl, hq, by rw [ht]; exact hP, hD⟩, hS.F ht⟩) hS.2.2 d X.2.2.2.2.2.1
theorem ev_zret {Q : Option Value → va_W → Prop} {v : Int32} (pc : Nat) (d : decode μ.2.1 pc = .ok (.ireturn, 1)) (hr : μ.2.2.2.1 = some .boolean) (hn : narrow .boolean (.int v) = .int v) (hq : Q (some (.int v)) ws) : EV π μ (ev_E π cells slots Q) cells slots pc lv [.int v] ws :=
  fun p e s m args below meth c H locs ls A X hl hK hZ hP hD hS hA => W.zret X.1 X.2.1 (X.2.2.2.2.2.2.1.trans hr) hn (fun t ht hW => ⟨⟨_, ws, rfl, hq, by rw [ht]; exact hP, hD⟩, hS.F ht⟩) hS.2.2 d X.2.2.2.2.2.1
theorem ev_lret {Q : Option Value → va_W → Prop} {v : Int64} (pc : Nat) (d : decode μ.2.1 pc = .ok (.lreturn, 1)) (hr : μ.2.2.2.1 = some .long) (hq : Q (some (.long v)) ws) : EV π μ (ev_E π cells slots Q) cells slots pc lv [.long v] ws :=
  fun p e s m args below meth c H locs ls A X hl hK hZ hP hD hS hA => W.lret X.1 X.2.1 (X.2.2.2.2.2.2.1.trans hr) (fun t ht hW => ⟨⟨_, ws, rfl, hq, by rw [ht]; exact hP, hD⟩, hS.F ht⟩) hS.2.2 d X.2.2.2.2.2.1
theorem ev_vret {Q : Option Value → va_W → Prop} (pc : Nat) (d : decode μ.2.1 pc = .ok (.return_, 1)) (hr : μ.2.2.2.1 = none) (hq : Q none ws) : EV π μ (ev_E π cells slots Q) cells slots pc lv [] ws :=
  fun p e s m args below meth c H locs ls A X hl hK hZ hP hD hS hA => W.vret X.1 X.2.1 (X.2.2.2.2.2.2.1.trans hr) (fun t ht hW => ⟨⟨_, ws, rfl, hq, by rw [ht]; exact hP, hD⟩, hS.F ht⟩) hS.2.2 d X.2.2.2.2.2.1
theorem ev_aret {Q : Option Value → va_W → Prop} {v : Value} {rt : FieldType} (pc : Nat) (d : decode μ.2.1 pc = .ok (.areturn, 1)) (hr : μ.2.2.2.1 = some rt) (hrt : (∃ n, rt = .object n) ∨ ∃ t, rt = .array t) (hv : v = .null ∨ ∃ a, v = .ref a) (hq : Q (some v) ws) : EV π μ (ev_E π cells slots Q) cells slots pc lv [v] ws :=
  fun p e s m args below meth c H locs ls A X hl hK hZ hP hD hS hA => W.aret X.1 X.2.1 (X.2.2.2.2.2.2.1.trans hr) hrt hv (fun t ht hW => ⟨⟨_, ws, rfl, hq, by rw [ht]; exact hP, hD⟩, hS.F ht⟩) hS.2.2 d X.2.2.2.2.2.1
end EVh
/-! calls: the whole world goes to the callee -/
theorem ev_inA {A : Nat → Prop} {ws : va_W} {H0 H : Heap} {locs : List Loc} (hD : va_D A ws) (hS : va_S A H0 H locs) (hA : ∀ q : Nat, H0.size ≤ q → A q) : ∀ q, va_A ws H.size q → A q := by
  rintro q (⟨k, e, hk⟩ | h)
  · exact hD.2 k (q, e) hk
  · exact hA q (Nat.le_trans hS.1 h)
theorem ev_blind {π : ev_P} (hZ : ev_Zok π.2.2.2.2) (av : List Value) (w0 : va_W) (sz : Nat) : FrameBlind (ev_Pc π av w0 sz) := by
  rintro a U g mk ⟨h0, h1, hP, hK, hD, hz⟩
  exact ⟨h0, h1, hP, va_K.moved (u := U) (U := U.calling g mk a) (Vm.Alike.refl U.vm) hK, hD, hZ.2.2.2 _ U _ _ rfl hz⟩
theorem ev_pre {π : ev_P} (hZ : ev_Zok π.2.2.2.2) {s U : State} {ws : va_W} {H : Heap} {locs : List Loc} {A : Nat → Prop} (As : List Value) (hK : va_K π.2.1 π.2.2.1 π.2.2.2.1 s) (hz : π.2.2.2.2 A s s.heap) (hP : va_P π.2.1 π.2.2.1 ws H) (hD : va_D A ws) (hS : va_S A s.heap H locs) (hA : ∀ q : Nat, s.heap.size ≤ q → A q) (hU : U.heap = H) (hW : s.WarmedH U.vm) : ev_Pc π As ws H.size As.toArray U := by
  refine ⟨rfl, by rw [hU], by rw [hU]; exact hP, va_K.moved hW.alike hK, hD.weaken (fun _ _ _ _ => trivial), ?_⟩
  rw [hU]
  exact hZ.1 _ s U _ hW (hZ.2.2.1 A _ _ _ (hZ.2.1 _ _ _ _ hz hS.2.1) (ev_inA hD hS hA))
theorem ev_run {π : ev_P} {p : Program} {e : Env} {R : Room} {s : State} {m : MethodId} {args : Array Value} {below : List Frame} {meth : Method} {c : Code} {H : Heap} {locs : List Loc} {cells slots mc ms pc : Nat} {ls : Array Slot} {st0 rest : List Value} {Q : State → Prop} {Q' : Option Value → va_W → Prop} {a : Array Value} {ws : va_W} {A : Nat → Prop}
    (hr : va_Run p π.1 e R s m args below meth c H locs cells slots mc ms (F0 m pc ls st0) rest (ev_Q π Q' (va_A ws H.size) a) (va_A ws H.size)) (hD : va_D A ws) (hS : va_S A s.heap H locs) (hA : ∀ q : Nat, s.heap.size ≤ q → A q)
    (kk : ∀ (r : Option Value) (w : va_W) (H1 : Heap) (locs1 : List Loc), Q' r w → va_P π.2.1 π.2.2.1 w H1 → va_D A w → va_S A s.heap H1 locs1 → W p π.1 e R s m args below meth c H1 locs1 (cells + mc) (slots + ms) Q (F0 m (pc + 3) ls (r.toList ++ rest))) : W p π.1 e R s m args below meth c H locs cells slots Q (F0 m pc ls st0) := by
  intro T hT X
  have hF := ev_inA hD hS hA
  obtain ⟨v, st₀, t, T', L, h0, X', hL, e1, e2, ⟨⟨r, w, hv, hq, hP1, hD1⟩, hz, hk⟩, st⟩ := hr T hT X
  cases hv
  rw [h0] at hz hk
  obtain ⟨t2, a1, b1⟩ := kk v w T'.heap (locs ++ L) hq (by rw [e1]; exact hP1) (hD1.weaken (fun k q hk' h => hF _ h))
    ⟨Nat.le_trans hS.1 (by rw [e1]; exact hz), fun q h1 h2 => by rw [e1, hk q (Nat.lt_of_lt_of_le h1 hS.1) (fun z => h2 (hF q z))]; exact hS.2.1 q h1 h2, fun q hq => by
      rcases List.mem_append.mp hq with h | h
      · exact hS.2.2 q h
      · exact hF _ (hL q h)⟩ T' rfl X'
  exact ⟨t2, st t2 a1, b1⟩
/-- what a caller μ must know of its callee μ' -/
def ev_kS (μ μ' : ev_M) (idx n : Nat) : Prop := GoodIn μ.2.2.2.2.1 (va_wsS μ.1.cls idx μ'.1 μ'.2.2.2.2.1) ∧ (∃ ws', μ'.2.2.2.2.1 = Cond.code μ'.1 μ'.2.1 μ'.2.2.1 μ'.2.2.2.1 :: ws') ∧ (μ'.1.cls ≠ "java/lang/invoke/MethodHandle" ∧ μ'.1.cls ≠ "java/lang/invoke/VarHandle" ∧ (parseMethodDescriptor μ'.1.desc).map (fun d => d.parameters.length) = some n)
def ev_kV (μ μ' : ev_M) (idx n : Nat) : Prop := GoodIn μ.2.2.2.2.1 (wsV μ.1.cls idx μ'.1.cls μ'.1 μ'.2.2.2.2.1) ∧ (∃ ws', μ'.2.2.2.2.1 = Cond.code μ'.1 μ'.2.1 μ'.2.2.1 μ'.2.2.2.1 :: ws') ∧ (μ'.1.cls ≠ "java/lang/invoke/MethodHandle" ∧ μ'.1.cls ≠ "java/lang/invoke/VarHandle" ∧ (parseMethodDescriptor μ'.1.desc).map (fun d => d.parameters.length) = some n)
def ev_kR (μ μ' : ev_M) (mc ms cells slots : Nat) : Prop := μ'.2.2.2.2.2.cells = mc ∧ μ'.2.2.2.2.2.slots = ms ∧ (μ'.2.2.2.2.2.frames + 1 ≤ μ.2.2.2.2.2.frames ∧ 8 + (μ'.2.2.1 + 11) + μ'.2.2.2.2.2.locals ≤ μ.2.2.2.2.2.locals) ∧ cells + mc ≤ μ.2.2.2.2.2.cells ∧ slots + ms ≤ μ.2.2.2.2.2.slots
section EVc
variable {π : ev_P} {μ μ' : ev_M} {E : ev_T} {cells slots mc ms : Nat} {lv : List (Option Value)} {st : List Value} {ws : va_W} {Q' : Option Value → va_W → Prop}
theorem ev_callS {idx : Nat} (pc : Nat) (As rest : List Value) (d : decode μ.2.1 pc = .ok (.invokestatic idx, 3)) (hZ : ev_Zok π.2.2.2.2) (hk : ev_kS μ μ' idx As.length) (hR : ev_kR μ μ' mc ms cells slots) (hM : MT π μ' mc ms As ws Q')
    (kk : ∀ (r : Option Value) (w : va_W), Q' r w → EV π μ E (cells + mc) (slots + ms) (pc + 3) lv (r.toList ++ rest) w) (hst : st = As.reverse ++ rest := by rfl) (hrm : (rest.map fun v => v.category).sum ≤ 8 := by exact Nat.le_of_ble_eq_true rfl) : EV π μ E cells slots pc lv st ws := by
  obtain ⟨hG, ⟨ws', hw⟩, hd⟩ := hk
  obtain ⟨r1, r2, r3, r4⟩ := hR
  intro p e s m args below meth c H locs ls A X hl hK hz hP hD hS hA
  have hfix : CallFix p m c μ.2.1 μ.2.2.1 s args μ.2.2.2.2.1 μ.1.cls := ⟨X.1, X.2.1, X.2.2.1, X.2.2.2.1, X.2.2.2.2.1⟩
  subst hst
  refine ev_run (va_runS (As := As) (rest := rest) hfix (hM H.size) (va_cwS As.length X.2.2.2.2.1 hG hw r1 r2 hd r3) ⟨ev_blind hZ _ _ _, fun U hU hW => ev_pre hZ As hK hz hP hD hS hA hU hW⟩ rfl rfl hl.1 rfl (lv_room hrm) d r4) hD hS hA ?_
  intro r w H1 locs1 hq hP1 hD1 hS1
  exact kk r w hq p e s m args below meth c H1 locs1 ls A X hl hK hz hP1 hD1 hS1 hA
theorem ev_recv {D : va_G} {cl : List vw_C} {tys : List (ClassId × FieldType)} {s : State} {ws : va_W} {H : Heap} {q0 b ci : Nat} {fs : List Value} {C : String} {T : u_T} {N : Nat} (hK : va_K D cl tys s) (hP : va_P D cl ws H) (he : ws[q0]? = some (b, .inr (ci, fs))) (hc : cl[ci]? = some (C, T, N)) : ∃ cellB : Cell, H[b]? = some cellB ∧ cellB.vm.isStatics = false ∧ s.vm.findClass C = some cellB.cls := va_recv hK hP hc he
theorem ev_callV {idx b ci : Nat} {fs : List Value} {T : u_T} {N : Nat} (pc q0 : Nat) (As rest : List Value) (d : decode μ.2.1 pc = .ok (.invokevirtual idx, 3)) (hZ : ev_Zok π.2.2.2.2) (hk : ev_kV μ μ' idx As.length) (hR : ev_kR μ μ' mc ms cells slots) (he : ws[q0]? = some (b, .inr (ci, fs))) (hc : π.2.2.1[ci]? = some (μ'.1.cls, T, N)) (hM : MT π μ' mc ms (.ref b :: As) ws Q')
    (kk : ∀ (r : Option Value) (w : va_W), Q' r w → EV π μ E (cells + mc) (slots + ms) (pc + 3) lv (r.toList ++ rest) w) (hst : st = As.reverse ++ .ref b :: rest := by rfl) (hrm : (rest.map fun v => v.category).sum ≤ 8 := by exact Nat.le_of_ble_eq_true rfl) : EV π μ E cells slots pc lv st ws := by
  obtain ⟨hG, ⟨ws', hw⟩, hd⟩ := hk
  obtain ⟨r1, r2, r3, r4⟩ := hR
  intro p e s m args below meth c H locs ls A X hl hK hz hP hD hS hA
  have hfix : CallFix p m c μ.2.1 μ.2.2.1 s args μ.2.2.2.2.1 μ.1.cls := ⟨X.1, X.2.1, X.2.2.1, X.2.2.2.1, X.2.2.2.2.1⟩
  subst hst
  refine ev_run (va_runV (As := As) (rest := rest) (b := b) hfix (hM H.size) (cwV As.length X.2.2.2.2.1 hG hw r1 r2 ⟨rfl, hd⟩ r3) ⟨ev_blind hZ _ _ _, ev_recv hK hP he hc, fun U hU hW => ev_pre hZ (.ref b :: As) hK hz hP hD hS hA hU hW⟩ rfl rfl hl.1 rfl (lv_room hrm) d r4) hD hS hA ?_
  intro r w H1 locs1 hq hP1 hD1 hS1
  exact kk r w hq p e s m args below meth c H1 locs1 ls A X hl hK hz hP1 hD1 hS1 hA
end EVc
theorem mt_mono {π : ev_P} {μ : ev_M} {mc ms : Nat} {av : List Value} {w0 : va_W} {Q Q' : Option Value → va_W → Prop} (h : MT π μ mc ms av w0 Q) (hq : ∀ r w, Q r w → Q' r w) : MT π μ mc ms av w0 Q' := by
  intro sz
  have h1 := h sz
  unfold Met at h1 ⊢
  refine MetFree.mono h1 (fun _ _ z => z) (fun _ _ _ _ _ z => z) ?_
  rintro a s o t - ⟨⟨⟨r, w, e1, e2, e3⟩, e4⟩, e5⟩
  exact ⟨⟨⟨r, w, e1, hq r w e2, e3⟩, e4⟩, e5⟩
end
section
/-! making objects and arrays, final fields, stores of references, constructors -/
theorem ev_ra {U : State} {c c' : ClassId} {ty : FieldType} (h : va_RA U c ty) (h' : va_RA U c' ty) : c = c' := by
  cases ty with
  | object C =>
    obtain ⟨_, _, -, -, -, h4⟩ := h
    obtain ⟨_, _, -, -, -, h4'⟩ := h'
    exact Option.some.inj (h4.symm.trans h4')
  | _ => exact Option.some.inj (Eq.trans (Eq.symm h) h')
theorem ev_fr {A : Nat → Prop} {ws : va_W} {q : Nat} {x : va_E} (h : va_D A (ws ++ [(q, x)])) : ∀ (k : Nat) (z : Nat × va_E), ws[k]? = some z → z.1 ≠ q := by
  intro k z hk e
  have hl := (List.getElem?_eq_some_iff.mp hk).1
  have h1 := h.1 k ws.length z (q, x) (by rw [List.getElem?_append_left hl]; exact hk) (by rw [List.getElem?_append_right (Nat.le_refl _), Nat.sub_self]; rfl) e
  omega
section EVn
variable {π : ev_P} {μ μ' : ev_M} {E : ev_T} {cells slots mc ms : Nat} {lv : List (Option Value)} {st : List Value} {ws : va_W} {Q' : Option Value → va_W → Prop}
theorem ev_newa {atype : ArrayType} {ty : FieldType} {kA : ClassId} {n : Int32} {N' : Nat} {a0 : vp_A} (pc t0 : Nat) (d : decode μ.2.1 pc = .ok (.newarray atype, 2)) (harr : Cond.arrayClass (newarray.typeOf atype) ∈ μ.2.2.2.2.1) (hty : newarray.typeOf atype = ty) (ht : π.2.2.2.1[t0]? = some (kA, ty))
    (ha : ∀ cA : ClassId, vp_cell cA a0 = arrV cA N' (fun _ => defaultValue ty)) (hn : ¬ n < 0) (hN : n.toNatClampNeg = N') (hbytes : N' * componentBytes ty ≤ 536870912) (hcells : cells + 1 ≤ μ.2.2.2.2.2.cells) (hslots : slots + N' ≤ μ.2.2.2.2.2.slots)
    (kk : ∀ q : Nat, (∀ (k : Nat) (z : Nat × va_E), ws[k]? = some z → z.1 ≠ q) → EV π μ E (cells + 1) (slots + N') (pc + 2) lv (.ref q :: st) (ws ++ [(q, .inl (kA, a0))])) : EV π μ E cells slots pc lv (.int n :: st) ws := by
  intro p e s m args below meth c H locs ls A X hl hK hZ hP hD hS hA
  refine va_newa X.1 X.2.1 (X.2.2.2.2.1 _ harr) hty hK hP hD hS hA ha hn hN hbytes hcells hslots d (fun q cA H1 hK1 hP1 hD1 hS1 => ?_)
  have e1 : cA = kA := ev_ra ((hK1.2 π.2.2.2.1.length (cA, ty) (by rw [List.getElem?_append_right (Nat.le_refl _), Nat.sub_self]; rfl)).2) (hK.2 t0 (kA, ty) ht).2
  subst e1
  exact kk q (ev_fr hD1) p e s m args below meth c H1 locs ls A X hl hK hZ hP1 hD1 hS1 hA
theorem ev_newq {C : String} {idx : Nat} {kA : ClassId} {n : Int32} {N' : Nat} (pc t0 : Nat) (d : decode μ.2.1 pc = .ok (.anewarray idx, 3)) (hcl : Cond.classLink μ.1.cls idx C ∈ μ.2.2.2.2.1) (hov : ∀ s : State, (∃ A, π.2.2.2.2 A s s.heap) → va_AO C s) (ht : π.2.2.2.1[t0]? = some (kA, .object C))
    (hn : ¬ n < 0) (hN : n.toNatClampNeg = N') (hbytes : N' * 4 ≤ 536870912) (hcells : cells + 1 ≤ μ.2.2.2.2.2.cells) (hslots : slots + N' ≤ μ.2.2.2.2.2.slots)
    (kk : ∀ q : Nat, (∀ (k : Nat) (z : Nat × va_E), ws[k]? = some z → z.1 ≠ q) → EV π μ E (cells + 1) (slots + N') (pc + 3) lv (.ref q :: st) (ws ++ [(q, .inl (kA, N', .inr (.inr (.inr (.inr (fun _ => none))))))])) : EV π μ E cells slots pc lv (.int n :: st) ws := by
  intro p e s m args below meth c H locs ls A X hl hK hZ hP hD hS hA
  refine va_newq X.1 X.2.1 X.2.2.2.1 (X.2.2.2.2.1 _ hcl) (hov s ⟨A, hZ⟩) hK hP hD hS hA hn hN hbytes hcells hslots d (fun q cA H1 hK1 hP1 hD1 hS1 => ?_)
  have e1 : cA = kA := ev_ra ((hK1.2 π.2.2.2.1.length (cA, .object C) (by rw [List.getElem?_append_right (Nat.le_refl _), Nat.sub_self]; rfl)).2) (hK.2 t0 (kA, .object C) ht).2
  subst e1
  exact kk q (ev_fr hD1) p e s m args below meth c H1 locs ls A X hl hK hZ hP1 hD1 hS1 hA
theorem ev_new {C : String} {T : u_T} {N ci idx : Nat} {ty : Nat → FieldType} {fs : List Value} (pc : Nat) (d : decode μ.2.1 pc = .ok (.new idx, 3)) (hin : ∀ w ∈ u_ws C T N, w ∈ μ.2.2.2.2.1) (hty : ∀ k, k < N → parseFieldDescriptor (T k).2.2.1 = some (ty k)) (hcl : Cond.classLink μ.1.cls idx C ∈ μ.2.2.2.2.1) (hinst : Cond.instantiable C N ∈ μ.2.2.2.2.1) (hini : Cond.initialized C ∈ μ.2.2.2.2.1)
    (hc : π.2.2.1[ci]? = some (C, T, N)) (hfs : ∀ j, j < N → defaultValue (ty j) = vp_V fs j) (hcells : cells + 1 ≤ μ.2.2.2.2.2.cells) (hslots : slots + N ≤ μ.2.2.2.2.2.slots)
    (kk : ∀ q : Nat, (∀ (k : Nat) (z : Nat × va_E), ws[k]? = some z → z.1 ≠ q) → EV π μ E (cells + 1) (slots + N) (pc + 3) lv (.ref q :: st) (ws ++ [(q, .inr (ci, fs))])) : EV π μ E cells slots pc lv st ws := by
  intro p e s m args below meth c H locs ls A X hl hK hZ hP hD hS hA
  exact va_new (C := C) (T := T) (N := N) X.1 X.2.1 X.2.2.2.2.1 hin ty hty X.2.2.2.1 (X.2.2.2.2.1 _ hcl) (X.2.2.2.2.1 _ hinst) (X.2.2.2.2.1 _ hini) hK hP hD hS hA hc hfs hcells hslots d (fun q H1 hP1 hD1 hS1 => kk q (ev_fr hD1) p e s m args below meth c H1 locs ls A X hl hK hZ hP1 hD1 hS1 hA)
def ev_FF (cl : List vw_C) (Ts : List Cond) (own : String) (idx ci k : Nat) (ty : FieldType) : Prop := ∃ (C : String) (T : u_T) (N : Nat) (ty0 : Nat → FieldType), cl[ci]? = some (C, T, N) ∧ (∀ w ∈ u_ws C T N, w ∈ Ts) ∧ k < N ∧ Cond.fieldLink own idx (T k).1 (T k).2.1 (T k).2.2.1 ∈ Ts ∧
  (∀ k, k < N → parseFieldDescriptor (T k).2.2.1 = some (ty0 k)) ∧ (∀ a, a < N → ∀ b, b < N → a ≠ b → (T a).2.1 ≠ (T b).2.1) ∧ (T k).2.2.2 = true ∧ parseFieldDescriptor (T k).2.2.1 = some ty ∧ (T k).1 = own
theorem ev_putF {idx ci a : Nat} {fs : List Value} {v : Value} {ty : FieldType} (pc q0 k : Nat) (d : decode μ.2.1 pc = .ok (.putfield idx, 3)) (hF : ev_FF π.2.2.1 μ.2.2.2.2.1 μ.1.cls idx ci k ty) (hnm : μ.1.name = "<init>") (he : ws[q0]? = some (a, .inr (ci, fs))) (hl0 : k < fs.length) (hn : narrow ty v = v) (hfit : fits ty v = true)
    (kk : EV π μ E cells slots (pc + 3) lv st (ws.set q0 (a, .inr (ci, fs.set k v)))) : EV π μ E cells slots pc lv (v :: .ref a :: st) ws := by
  obtain ⟨C, T, N, ty0, hc, hin, hk, hlk, hty, hnm0, hfin, hd, hdecl⟩ := hF
  intro p e s m args below meth c H locs ls A X hl hK hZ hP hD hS hA
  exact va_putF (C := C) (T := T) (N := N) X.1 X.2.1 X.2.2.2.2.1 hin ty0 hty hnm0 X.2.2.2.1 hK hP hD hS q0 he hc k hk (X.2.2.2.2.1 _ hlk) (fun _ h => h) hfin (X.2.2.2.2.2.2.2.trans hnm) hdecl hd hn hfit hl0 d (fun H1 locs1 hP1 hD1 hS1 => kk p e s m args below meth c H1 locs1 ls A X hl hK hZ hP1 hD1 hS1 hA)
theorem ev_aast {a : Nat} {cA : ClassId} {r : vw_C} {n v qk ci : Nat} {vs : List Value} {f : Nat → Option Nat} {i : Int32} (pc q0 t0 : Nat) (d : decode μ.2.1 pc = .ok (.aastore, 1)) (ha : ws[q0]? = some (a, .inl (cA, n, .inr (.inr (.inr (.inr f)))))) (ht : π.2.2.2.1[t0]? = some (cA, .object r.1)) (hv : ws[qk]? = some (v, .inr (ci, vs))) (hc : π.2.2.1[ci]? = some r) (hin : vp_in i n)
    (kk : EV π μ E cells slots (pc + 1) lv st (ws.set q0 (a, .inl (cA, n, .inr (.inr (.inr (.inr (va_up f i.toNatClampNeg (some v))))))))) : EV π μ E cells slots pc lv (.ref v :: .int i :: .ref a :: st) ws :=
  fun p e s m args below meth c H locs ls A X hl hK hZ hP hD hS hA => va_astq X.1 X.2.1 hK hP hD hS q0 t0 qk ci ha ht hv hc hin d (fun H1 locs1 hP1 hD1 hS1 => kk p e s m args below meth c H1 locs1 ls A X hl hK hZ hP1 hD1 hS1 hA)
theorem ev_obj {idx a : Nat} (pc : Nat) (d : decode μ.2.1 pc = .ok (.invokespecial idx, 3)) (h1 : Cond.methodLink μ.1.cls idx Lib.objectInit ∈ μ.2.2.2.2.1) (h2 : Cond.instanceMethod Lib.objectInit ∈ μ.2.2.2.2.1) (h3 : Cond.code Lib.objectInit ⟨#[0xb1]⟩ 1 none ∈ μ.2.2.2.2.1) (hf : 1 ≤ μ.2.2.2.2.2.frames) (hlo : 20 ≤ μ.2.2.2.2.2.locals)
    (kk : EV π μ E cells slots (pc + 3) lv st ws) (hrm : (st.map fun v => v.category).sum ≤ 8 := by exact Nat.le_of_ble_eq_true rfl) : EV π μ E cells slots pc lv (.ref a :: st) ws := by
  intro p e s m args below meth c H locs ls A X hl hK hZ hP hD hS hA
  refine W.objInit X.1 X.2.1 X.2.2.2.1 (X.2.2.2.2.1 _ h1) (X.2.2.2.2.1 _ h2) (X.2.2.2.2.1 _ h3) rfl (by rw [X.2.2.1]; exact hl.1) rfl d hf ?_ (kk p e s m args below meth c H locs ls A X hl hK hZ hP hD hS hA)
  have := lv_room (m := m) (pc := pc) (ls := ls) (rest := .ref a :: st) hrm
  omega
def ev_kI (μ μ' : ev_M) (idx n : Nat) : Prop := GoodIn μ.2.2.2.2.1 μ'.2.2.2.2.1 ∧ (∃ ws', μ'.2.2.2.2.1 = Cond.code μ'.1 μ'.2.1 μ'.2.2.1 none :: ws') ∧ Cond.initialized μ'.1.cls ∈ μ.2.2.2.2.1 ∧ Cond.methodLink μ.1.cls idx μ'.1 ∈ μ.2.2.2.2.1 ∧ Cond.instanceMethod μ'.1 ∈ μ.2.2.2.2.1 ∧ μ'.1.name = "<init>" ∧ (μ'.1.cls ≠ "java/lang/invoke/MethodHandle" ∧ μ'.1.cls ≠ "java/lang/invoke/VarHandle" ∧ (parseMethodDescriptor μ'.1.desc).map (fun d => d.parameters.length) = some n)
theorem ev_callI {idx b : Nat} (pc : Nat) (As rest : List Value) (d : decode μ.2.1 pc = .ok (.invokespecial idx, 3)) (hZ : ev_Zok π.2.2.2.2) (hk : ev_kI μ μ' idx As.length) (hR : ev_kR μ μ' mc ms cells slots) (hM : MT π μ' mc ms (.ref b :: As) ws Q')
    (kk : ∀ (r : Option Value) (w : va_W), Q' r w → EV π μ E (cells + mc) (slots + ms) (pc + 3) lv (r.toList ++ rest) w) (hst : st = As.reverse ++ .ref b :: rest := by rfl) (hrm : (rest.map fun v => v.category).sum ≤ 8 := by exact Nat.le_of_ble_eq_true rfl) : EV π μ E cells slots pc lv st ws := by
  obtain ⟨hG, ⟨ws', hw⟩, k1, k2, k3, k4, hd⟩ := hk
  obtain ⟨r1, r2, r3, r4⟩ := hR
  intro p e s m args below meth c H locs ls A X hl hK hz hP hD hS hA
  have hfix : CallFix p m c μ.2.1 μ.2.2.1 s args μ.2.2.2.2.1 μ.1.cls := ⟨X.1, X.2.1, X.2.2.1, X.2.2.2.1, X.2.2.2.2.1⟩
  subst hst
  refine ev_run (va_runI (As := As) (rest := rest) (b := b) hfix (hM H.size) (cwI As.length X.2.2.2.2.1 hG hw r1 r2 (X.2.2.2.2.1 _ k1) (X.2.2.2.2.1 _ k2) (X.2.2.2.2.1 _ k3) k4 hd r3) ⟨ev_blind hZ _ _ _, fun U hU hW => ev_pre hZ (.ref b :: As) hK hz hP hD hS hA hU hW⟩ rfl rfl hl.1 rfl (lv_room hrm) d r4) hD hS hA ?_
  intro r w H1 locs1 hq hP1 hD1 hS1
  exact kk r w hq p e s m args below meth c H1 locs1 ls A X hl hK hz hP1 hD1 hS1 hA
end EVn
end
section
/-! names of the classes, their fields by places of our own order, and the list of the classes -/
def R_hc : String := "HostedCalls"
def T_hc : u_T := fun k => match k with
  | 0 => ("HostedCalls", "types", "[LHostedCalls$Type;", true)
  | 1 => ("HostedCalls", "typeCount", "I", false)
  | 2 => ("HostedCalls", "draft", "[LHostedCalls$Type;", true)
  | 3 => ("HostedCalls", "draftCount", "I", false)
  | 4 => ("HostedCalls", "instances", "[LHostedCalls$Instance;", true)
  | 5 => ("HostedCalls", "instanceCount", "I", false)
  | 6 => ("HostedCalls", "functions", "[LHostedCalls$Function;", true)
  | 7 => ("HostedCalls", "functionCount", "I", false)
  | 8 => ("HostedCalls", "stackInstances", "[I", true)
  | 9 => ("HostedCalls", "stackFunctions", "[I", true)
  | 10 => ("HostedCalls", "stackPlaces", "[I", true)
  | 11 => ("HostedCalls", "stackCount", "I", false)
  | 12 => ("HostedCalls", "resourcesMade", "I", false)
  | 13 => ("HostedCalls", "living", "[I", true)
  | 14 => ("HostedCalls", "destroyed", "[I", true)
  | 15 => ("HostedCalls", "items", "LHostedCalls$Items;", true)
  | 16 => ("HostedCalls", "latestTrap", "LHostedCalls$Trap;", true)
  | _ => ("HostedCalls", "latestPoisoned", "I", false)
def t_hc : Nat → FieldType := fun k => match k with
  | 0 => (.array (.object "HostedCalls$Type"))
  | 1 => .int
  | 2 => (.array (.object "HostedCalls$Type"))
  | 3 => .int
  | 4 => (.array (.object "HostedCalls$Instance"))
  | 5 => .int
  | 6 => (.array (.object "HostedCalls$Function"))
  | 7 => .int
  | 8 => (.array .int)
  | 9 => (.array .int)
  | 10 => (.array .int)
  | 11 => .int
  | 12 => .int
  | 13 => (.array .int)
  | 14 => (.array .int)
  | 15 => (.object "HostedCalls$Items")
  | 16 => (.object "HostedCalls$Trap")
  | _ => .int
theorem n_hc_ok : ∀ a, a < 18 → ∀ b, b < 18 → a ≠ b → (T_hc a).2.1 ≠ (T_hc b).2.1 := by decide +kernel
theorem t_hc_ok : ∀ k, k < 18 → parseFieldDescriptor (T_hc k).2.2.1 = some (t_hc k) := by decide +kernel
def R_ty : String := "HostedCalls$Type"
def T_ty : u_T := fun k => match k with
  | 0 => ("HostedCalls$Type", "kind", "I", true)
  | 1 => ("HostedCalls$Type", "n", "I", true)
  | 2 => ("HostedCalls$Type", "partCount", "I", true)
  | 3 => ("HostedCalls$Type", "parts", "[LHostedCalls$Type;", true)
  | 4 => ("HostedCalls$Type", "offsets", "[I", true)
  | 5 => ("HostedCalls$Type", "depth", "I", true)
  | 6 => ("HostedCalls$Type", "hasBorrow", "Z", true)
  | 7 => ("HostedCalls$Type", "alignment", "I", true)
  | _ => ("HostedCalls$Type", "size", "I", true)
def t_ty : Nat → FieldType := fun k => match k with
  | 0 => .int
  | 1 => .int
  | 2 => .int
  | 3 => (.array (.object "HostedCalls$Type"))
  | 4 => (.array .int)
  | 5 => .int
  | 6 => .boolean
  | 7 => .int
  | _ => .int
theorem n_ty_ok : ∀ a, a < 9 → ∀ b, b < 9 → a ≠ b → (T_ty a).2.1 ≠ (T_ty b).2.1 := by decide +kernel
theorem t_ty_ok : ∀ k, k < 9 → parseFieldDescriptor (T_ty k).2.2.1 = some (t_ty k) := by decide +kernel
def R_fu : String := "HostedCalls$Function"
def T_fu : u_T := fun k => match k with
  | 0 => ("HostedCalls$Function", "owner", "I", true)
  | 1 => ("HostedCalls$Function", "argument", "LHostedCalls$Type;", true)
  | _ => ("HostedCalls$Function", "result", "LHostedCalls$Type;", true)
def t_fu : Nat → FieldType := fun k => match k with
  | 0 => .int
  | 1 => (.object "HostedCalls$Type")
  | _ => (.object "HostedCalls$Type")
theorem n_fu_ok : ∀ a, a < 3 → ∀ b, b < 3 → a ≠ b → (T_fu a).2.1 ≠ (T_fu b).2.1 := by decide +kernel
theorem t_fu_ok : ∀ k, k < 3 → parseFieldDescriptor (T_fu k).2.2.1 = some (t_fu k) := by decide +kernel
def R_tr : String := "HostedCalls$Trap"
def T_tr : u_T := fun k => match k with
  | 0 => ("HostedCalls$Trap", "code", "I", false)
  | _ => ("HostedCalls$Trap", "place", "I", false)
def t_tr : Nat → FieldType := fun k => match k with
  | 0 => .int
  | _ => .int
theorem n_tr_ok : ∀ a, a < 2 → ∀ b, b < 2 → a ≠ b → (T_tr a).2.1 ≠ (T_tr b).2.1 := by decide +kernel
theorem t_tr_ok : ∀ k, k < 2 → parseFieldDescriptor (T_tr k).2.2.1 = some (t_tr k) := by decide +kernel
def R_ha : String := "HostedCalls$Handle"
def T_ha : u_T := fun k => match k with
  | 0 => ("HostedCalls$Handle", "resource", "I", false)
  | 1 => ("HostedCalls$Handle", "kind", "I", false)
  | 2 => ("HostedCalls$Handle", "loans", "I", false)
  | 3 => ("HostedCalls$Handle", "holding", "LHostedCalls$Holding;", false)
  | _ => ("HostedCalls$Handle", "lender", "LHostedCalls$Handle;", false)
def t_ha : Nat → FieldType := fun k => match k with
  | 0 => .int
  | 1 => .int
  | 2 => .int
  | 3 => (.object "HostedCalls$Holding")
  | _ => (.object "HostedCalls$Handle")
theorem n_ha_ok : ∀ a, a < 5 → ∀ b, b < 5 → a ≠ b → (T_ha a).2.1 ≠ (T_ha b).2.1 := by decide +kernel
theorem t_ha_ok : ∀ k, k < 5 → parseFieldDescriptor (T_ha k).2.2.1 = some (t_ha k) := by decide +kernel
def R_in : String := "HostedCalls$Instance"
def T_in : u_T := fun k => match k with
  | 0 => ("HostedCalls$Instance", "memory", "[I", true)
  | 1 => ("HostedCalls$Instance", "handles", "[LHostedCalls$Handle;", true)
  | 2 => ("HostedCalls$Instance", "heap", "I", false)
  | _ => ("HostedCalls$Instance", "condition", "I", false)
def t_in : Nat → FieldType := fun k => match k with
  | 0 => (.array .int)
  | 1 => (.array (.object "HostedCalls$Handle"))
  | 2 => .int
  | _ => .int
theorem n_in_ok : ∀ a, a < 4 → ∀ b, b < 4 → a ≠ b → (T_in a).2.1 ≠ (T_in b).2.1 := by decide +kernel
theorem t_in_ok : ∀ k, k < 4 → parseFieldDescriptor (T_in k).2.2.1 = some (t_in k) := by decide +kernel
def R_it : String := "HostedCalls$Items"
def T_it : u_T := fun k => match k with
  | 0 => ("HostedCalls$Items", "places", "[I", true)
  | 1 => ("HostedCalls$Items", "numbers", "[J", true)
  | 2 => ("HostedCalls$Items", "counts", "[I", true)
  | _ => ("HostedCalls$Items", "count", "I", false)
def t_it : Nat → FieldType := fun k => match k with
  | 0 => (.array .int)
  | 1 => (.array .long)
  | 2 => (.array .int)
  | _ => .int
theorem n_it_ok : ∀ a, a < 4 → ∀ b, b < 4 → a ≠ b → (T_it a).2.1 ≠ (T_it b).2.1 := by decide +kernel
theorem t_it_ok : ∀ k, k < 4 → parseFieldDescriptor (T_it k).2.2.1 = some (t_it k) := by decide +kernel
def R_re : String := "HostedCalls$Reader"
def T_re : u_T := fun k => match k with
  | 0 => ("HostedCalls$Reader", "sender", "LHostedCalls$Instance;", true)
  | 1 => ("HostedCalls$Reader", "items", "LHostedCalls$Items;", true)
  | 2 => ("HostedCalls$Reader", "trap", "LHostedCalls$Trap;", true)
  | _ => ("HostedCalls$Reader", "bytes", "J", false)
def t_re : Nat → FieldType := fun k => match k with
  | 0 => (.object "HostedCalls$Instance")
  | 1 => (.object "HostedCalls$Items")
  | 2 => (.object "HostedCalls$Trap")
  | _ => .long
theorem n_re_ok : ∀ a, a < 4 → ∀ b, b < 4 → a ≠ b → (T_re a).2.1 ≠ (T_re b).2.1 := by decide +kernel
theorem t_re_ok : ∀ k, k < 4 → parseFieldDescriptor (T_re k).2.2.1 = some (t_re k) := by decide +kernel
def R_wt : String := "HostedCalls$Writer"
def T_wt : u_T := fun k => match k with
  | 0 => ("HostedCalls$Writer", "sender", "LHostedCalls$Instance;", true)
  | 1 => ("HostedCalls$Writer", "receiver", "LHostedCalls$Instance;", true)
  | 2 => ("HostedCalls$Writer", "items", "LHostedCalls$Items;", true)
  | 3 => ("HostedCalls$Writer", "trap", "LHostedCalls$Trap;", true)
  | _ => ("HostedCalls$Writer", "next", "I", false)
def t_wt : Nat → FieldType := fun k => match k with
  | 0 => (.object "HostedCalls$Instance")
  | 1 => (.object "HostedCalls$Instance")
  | 2 => (.object "HostedCalls$Items")
  | 3 => (.object "HostedCalls$Trap")
  | _ => .int
theorem n_wt_ok : ∀ a, a < 5 → ∀ b, b < 5 → a ≠ b → (T_wt a).2.1 ≠ (T_wt b).2.1 := by decide +kernel
theorem t_wt_ok : ∀ k, k < 5 → parseFieldDescriptor (T_wt k).2.2.1 = some (t_wt k) := by decide +kernel
def R_mo : String := "HostedCallsModel"
def T_mo : u_T := fun k => match k with
  | 0 => ("HostedCallsModel", "code", "I", false)
  | 1 => ("HostedCallsModel", "types", "I", false)
  | 2 => ("HostedCallsModel", "kinds", "[I", true)
  | 3 => ("HostedCallsModel", "numbers", "[I", true)
  | 4 => ("HostedCallsModel", "sizes", "[I", true)
  | 5 => ("HostedCallsModel", "aligns", "[I", true)
  | 6 => ("HostedCallsModel", "depths", "[I", true)
  | 7 => ("HostedCallsModel", "counts", "[I", true)
  | 8 => ("HostedCallsModel", "parts", "[I", true)
  | 9 => ("HostedCallsModel", "offsets", "[I", true)
  | 10 => ("HostedCallsModel", "drafted", "I", false)
  | 11 => ("HostedCallsModel", "draft", "[I", true)
  | 12 => ("HostedCallsModel", "instances", "I", false)
  | 13 => ("HostedCallsModel", "bytes", "[I", true)
  | 14 => ("HostedCallsModel", "heaps", "[I", true)
  | 15 => ("HostedCallsModel", "states", "[I", true)
  | 16 => ("HostedCallsModel", "used", "[Z", true)
  | 17 => ("HostedCallsModel", "resource", "[I", true)
  | 18 => ("HostedCallsModel", "owned", "[Z", true)
  | 19 => ("HostedCallsModel", "lender", "[I", true)
  | 20 => ("HostedCallsModel", "taken", "[Z", true)
  | 21 => ("HostedCallsModel", "pending", "[I", true)
  | 22 => ("HostedCallsModel", "made", "I", false)
  | 23 => ("HostedCallsModel", "kindOf", "[I", true)
  | 24 => ("HostedCallsModel", "gone", "[Z", true)
  | 25 => ("HostedCallsModel", "functions", "I", false)
  | 26 => ("HostedCallsModel", "home", "[I", true)
  | 27 => ("HostedCallsModel", "argument", "[I", true)
  | 28 => ("HostedCallsModel", "result", "[I", true)
  | 29 => ("HostedCallsModel", "levels", "I", false)
  | 30 => ("HostedCallsModel", "running", "[I", true)
  | 31 => ("HostedCallsModel", "called", "[I", true)
  | 32 => ("HostedCallsModel", "last", "[I", true)
  | 33 => ("HostedCallsModel", "trapCode", "I", false)
  | 34 => ("HostedCallsModel", "trapPlace", "I", false)
  | 35 => ("HostedCallsModel", "trapInstance", "I", false)
  | 36 => ("HostedCallsModel", "waits", "I", false)
  | 37 => ("HostedCallsModel", "waitT", "[I", true)
  | 38 => ("HostedCallsModel", "waitU", "[I", true)
  | 39 => ("HostedCallsModel", "waitMany", "[I", true)
  | 40 => ("HostedCallsModel", "waitPlace", "[I", true)
  | 41 => ("HostedCallsModel", "waitAbove", "[I", true)
  | 42 => ("HostedCallsModel", "waitIn", "[I", true)
  | 43 => ("HostedCallsModel", "items", "I", false)
  | 44 => ("HostedCallsModel", "itemU", "[I", true)
  | 45 => ("HostedCallsModel", "itemPlace", "[I", true)
  | 46 => ("HostedCallsModel", "itemAbove", "[I", true)
  | 47 => ("HostedCallsModel", "itemIn", "[I", true)
  | 48 => ("HostedCallsModel", "itemFrom", "[I", true)
  | 49 => ("HostedCallsModel", "itemMany", "[I", true)
  | 50 => ("HostedCallsModel", "itemTo", "[I", true)
  | 51 => ("HostedCallsModel", "itemRoom", "[I", true)
  | 52 => ("HostedCallsModel", "fresh", "I", false)
  | 53 => ("HostedCallsModel", "freshOnes", "[I", true)
  | 54 => ("HostedCallsModel", "fault", "I", false)
  | 55 => ("HostedCallsModel", "faultPlace", "I", false)
  | 56 => ("HostedCallsModel", "layDepth", "I", false)
  | 57 => ("HostedCallsModel", "layAlign", "I", false)
  | 58 => ("HostedCallsModel", "laySize", "I", false)
  | _ => ("HostedCallsModel", "layOffsets", "[I", true)
def t_mo : Nat → FieldType := fun k => match k with
  | 0 => .int
  | 1 => .int
  | 2 => (.array .int)
  | 3 => (.array .int)
  | 4 => (.array .int)
  | 5 => (.array .int)
  | 6 => (.array .int)
  | 7 => (.array .int)
  | 8 => (.array .int)
  | 9 => (.array .int)
  | 10 => .int
  | 11 => (.array .int)
  | 12 => .int
  | 13 => (.array .int)
  | 14 => (.array .int)
  | 15 => (.array .int)
  | 16 => (.array .boolean)
  | 17 => (.array .int)
  | 18 => (.array .boolean)
  | 19 => (.array .int)
  | 20 => (.array .boolean)
  | 21 => (.array .int)
  | 22 => .int
  | 23 => (.array .int)
  | 24 => (.array .boolean)
  | 25 => .int
  | 26 => (.array .int)
  | 27 => (.array .int)
  | 28 => (.array .int)
  | 29 => .int
  | 30 => (.array .int)
  | 31 => (.array .int)
  | 32 => (.array .int)
  | 33 => .int
  | 34 => .int
  | 35 => .int
  | 36 => .int
  | 37 => (.array .int)
  | 38 => (.array .int)
  | 39 => (.array .int)
  | 40 => (.array .int)
  | 41 => (.array .int)
  | 42 => (.array .int)
  | 43 => .int
  | 44 => (.array .int)
  | 45 => (.array .int)
  | 46 => (.array .int)
  | 47 => (.array .int)
  | 48 => (.array .int)
  | 49 => (.array .int)
  | 50 => (.array .int)
  | 51 => (.array .int)
  | 52 => .int
  | 53 => (.array .int)
  | 54 => .int
  | 55 => .int
  | 56 => .int
  | 57 => .int
  | 58 => .int
  | _ => (.array .int)
theorem n_mo_ok : ∀ a, a < 60 → ∀ b, b < 60 → a ≠ b → (T_mo a).2.1 ≠ (T_mo b).2.1 := by decide +kernel
theorem t_mo_ok : ∀ k, k < 60 → parseFieldDescriptor (T_mo k).2.2.1 = some (t_mo k) := by decide +kernel
abbrev cl_A : List vw_C := [(R_hc, T_hc, 18), (R_ty, T_ty, 9), (R_fu, T_fu, 3), (R_tr, T_tr, 2), (R_ha, T_ha, 5), (R_in, T_in, 4), (R_it, T_it, 4), (R_re, T_re, 4), (R_wt, T_wt, 5), (R_mo, T_mo, 60)]
end
section
/-! the reference's world: one object with 60 fields (18 of them numbers), 42 arrays of ints or booleans. F k: the number in field k; B k: the array that field k holds; am k: its address, am 60 the object's -/
def mo_R : List Nat := [2, 3, 4, 5, 6, 7, 8, 9, 11, 13, 14, 15, 16, 17, 18, 19, 20, 21, 23, 24, 26, 27, 28, 30, 31, 32, 37, 38, 39, 40, 41, 42, 44, 45, 46, 47, 48, 49, 50, 51, 53, 59]
def mo_Zs : List Nat := [16, 18, 20, 24]
def mo_len (k : Nat) : Nat := match k with
  | 8 => 192 | 9 => 192 | 11 => 6 | 14 => 6 | 15 => 6 | 30 => 6 | 31 => 6 | 32 => 6 | 59 => 6 | 13 => 1536
  | 16 => 102 | 17 => 102 | 18 => 102 | 19 => 102 | 20 => 102 | 21 => 102 | 23 => 1024 | 24 => 1024 | 26 => 12 | 27 => 12 | 28 => 12
  | 37 => 64 | 38 => 64 | 39 => 64 | 40 => 64 | 41 => 64 | 42 => 64
  | 44 => 200 | 45 => 200 | 46 => 200 | 47 => 200 | 48 => 200 | 49 => 200 | 50 => 200 | 51 => 200 | 53 => 16 | _ => 32
def mo_fv (am : Nat → Nat) (F : Nat → Int32) (k : Nat) : Value := if mo_R.contains k then .ref (am k) else .int (F k)
def mo_fs (am : Nat → Nat) (F : Nat → Int32) : List Value := (List.range 60).map (mo_fv am F)
def mo_arr (kI kZ : ClassId) (B : Nat → Nat → Int32) (k : Nat) : va_E := .inl (if mo_Zs.contains k then kZ else kI, mo_len k, .inl (B k))
def mo_W (ci : Nat) (am : Nat → Nat) (kI kZ : ClassId) (F : Nat → Int32) (B : Nat → Nat → Int32) : va_W := (am 60, .inr (ci, mo_fs am F)) :: mo_R.map (fun k => (am k, mo_arr kI kZ B k))
abbrev mo_π (l : Launch) (D : va_G) (cl : List vw_C) (kI kZ : ClassId) (tl : List (ClassId × FieldType)) (Z : (Nat → Prop) → State → Heap → Prop) : ev_P := (l, D, cl, (kI, .int) :: (kZ, .boolean) :: tl, Z)
def mo_isI (k : Nat) : Bool := decide (k < 60) && !mo_R.contains k
theorem mo_fs_len (am : Nat → Nat) (F : Nat → Int32) : (mo_fs am F).length = 60 := by simp [mo_fs]
theorem mo_fs_get (am : Nat → Nat) (F : Nat → Int32) {k : Nat} (h : k < 60) : (mo_fs am F)[k]? = some (mo_fv am F k) := by
  simp [mo_fs, h]
theorem mo_fs_i {am : Nat → Nat} {F : Nat → Int32} {k : Nat} (h : mo_isI k = true) : (mo_fs am F)[k]? = some (.int (F k)) := by
  simp only [mo_isI, Bool.and_eq_true, decide_eq_true_eq, Bool.not_eq_true'] at h
  rw [mo_fs_get am F h.1, mo_fv, h.2]
  rfl
theorem mo_lt_of {n k : Nat} (h : mo_R[n]? = some k) : k < 60 := by
  have h1 : ∀ x ∈ mo_R, x < 60 := by decide
  exact h1 k (List.mem_of_getElem? h)
theorem mo_fs_r {am : Nat → Nat} {F : Nat → Int32} {n k : Nat} (h : mo_R[n]? = some k) : (mo_fs am F)[k]? = some (.ref (am k)) := by
  have h2 : mo_R.contains k = true := List.contains_iff_mem.mpr (List.mem_of_getElem? h)
  rw [mo_fs_get am F (mo_lt_of h), mo_fv, h2]
  rfl
theorem mo_fs_set {am : Nat → Nat} {F : Nat → Int32} {k : Nat} {x : Int32} (h : mo_isI k = true) : (mo_fs am F).set k (.int x) = mo_fs am (upd F k x) := by
  simp only [mo_isI, Bool.and_eq_true, decide_eq_true_eq, Bool.not_eq_true'] at h
  apply List.ext_getElem?
  intro j
  by_cases e : k = j
  · subst e
    rw [List.getElem?_set_self (by rw [mo_fs_len]; exact h.1), mo_fs_get _ _ h.1, mo_fv, h.2, upd]
    simp
  · rw [List.getElem?_set_ne e]
    by_cases hj : j < 60
    · have e2 : upd F k x j = F j := if_neg (fun z => e z.symm)
      rw [mo_fs_get _ _ hj, mo_fs_get _ _ hj, mo_fv, mo_fv, e2]
    · rw [List.getElem?_eq_none (by rw [mo_fs_len]; omega), List.getElem?_eq_none (by rw [mo_fs_len]; omega)]
theorem mo_setL : ∀ (R : List Nat) (n k : Nat) (f g : Nat → Nat × va_E), va_nd R = true → R[n]? = some k → (∀ j, j ≠ k → g j = f j) → (R.map f).set n (g k) = R.map g := by
  intro R
  induction R with
  | nil => intro n k f g _ h; simp at h
  | cons a R ih =>
    intro n k f g hn h hg
    simp only [va_nd, Bool.and_eq_true, decide_eq_true_eq] at hn
    cases n with
    | zero =>
      simp only [List.getElem?_cons_zero, Option.some.injEq] at h
      subst h
      rw [List.map_cons, List.set_cons_zero, List.map_cons]
      congr 1
      refine List.map_congr_left fun j hj => (hg j ?_).symm
      rintro rfl
      exact hn.1 hj
    | succ n =>
      rw [List.getElem?_cons_succ] at h
      rw [List.map_cons, List.set_cons_succ, List.map_cons, ih n k f g hn.2 h hg, hg a]
      rintro rfl
      exact hn.1 (List.mem_of_getElem? h)
theorem mo_R_nd : va_nd mo_R = true := by decide
theorem mo_W_at {ci : Nat} {am : Nat → Nat} {kI kZ : ClassId} {F : Nat → Int32} {B : Nat → Nat → Int32} {n k : Nat} (h : mo_R[n]? = some k) : (mo_W ci am kI kZ F B)[n + 1]? = some (am k, mo_arr kI kZ B k) := by
  rw [mo_W, List.getElem?_cons_succ, List.getElem?_map, h]
  rfl
theorem mo_W_set {ci : Nat} {am : Nat → Nat} {kI kZ : ClassId} {F : Nat → Int32} {B : Nat → Nat → Int32} {n k : Nat} {g : Nat → Int32} (h : mo_R[n]? = some k) : (mo_W ci am kI kZ F B).set (n + 1) (am k, .inl (if mo_Zs.contains k then kZ else kI, mo_len k, .inl g)) = mo_W ci am kI kZ F (va_up B k g) := by
  rw [mo_W, List.set_cons_succ, mo_W]
  congr 1
  have h1 := mo_setL mo_R n k (fun k => (am k, mo_arr kI kZ B k)) (fun j => (am j, mo_arr kI kZ (va_up B k g) j)) mo_R_nd h (fun j hj => by simp [mo_arr, va_up_ne B g hj])
  rw [← h1]
  simp [mo_arr, va_up_self]
section MO
variable {l : Launch} {D : va_G} {cl : List vw_C} {tl : List (ClassId × FieldType)} {Z : (Nat → Prop) → State → Heap → Prop} {ci : Nat} {kI kZ : ClassId} {am : Nat → Nat} {F : Nat → Int32} {B : Nat → Nat → Int32} {μ : ev_M} {E : ev_T} {cells slots : Nat} {lv : List (Option Value)} {st : List Value}
theorem mo_geti {idx : Nat} (pc k : Nat) (d : decode μ.2.1 pc = .ok (.getfield idx, 3)) (hF : ev_F cl μ.2.2.2.2.1 μ.1.cls idx ci k)
    (kk : EV (mo_π l D cl kI kZ tl Z) μ E cells slots (pc + 3) lv (.int (F k) :: st) (mo_W ci am kI kZ F B)) (hk : mo_isI k = true := by rfl) : EV (mo_π l D cl kI kZ tl Z) μ E cells slots pc lv (.ref (am 60) :: st) (mo_W ci am kI kZ F B) :=
  ev_get (fs := mo_fs am F) pc 0 k d hF rfl (mo_fs_i hk) kk
theorem mo_getr {idx : Nat} (pc n k : Nat) (d : decode μ.2.1 pc = .ok (.getfield idx, 3)) (hF : ev_F cl μ.2.2.2.2.1 μ.1.cls idx ci k)
    (kk : EV (mo_π l D cl kI kZ tl Z) μ E cells slots (pc + 3) lv (.ref (am k) :: st) (mo_W ci am kI kZ F B)) (hk : mo_R[n]? = some k := by rfl) : EV (mo_π l D cl kI kZ tl Z) μ E cells slots pc lv (.ref (am 60) :: st) (mo_W ci am kI kZ F B) :=
  ev_get (fs := mo_fs am F) pc 0 k d hF rfl (mo_fs_r hk) kk
theorem mo_puti {idx : Nat} {x : Int32} (pc k : Nat) (d : decode μ.2.1 pc = .ok (.putfield idx, 3)) (hF : ev_FP cl μ.2.2.2.2.1 μ.1.cls idx ci k .int)
    (kk : EV (mo_π l D cl kI kZ tl Z) μ E cells slots (pc + 3) lv st (mo_W ci am kI kZ (upd F k x) B)) (hk : mo_isI k = true := by rfl) : EV (mo_π l D cl kI kZ tl Z) μ E cells slots pc lv (.int x :: .ref (am 60) :: st) (mo_W ci am kI kZ F B) := by
  refine ev_put (fs := mo_fs am F) pc 0 k d hF rfl ?_ (vp_nar_int x) rfl ?_
  · rw [mo_fs_len]
    simp only [mo_isI, Bool.and_eq_true, decide_eq_true_eq] at hk
    exact hk.1
  · rw [mo_fs_set hk]
    exact kk
theorem mo_ald {i : Int32} (pc n k : Nat) (d : decode μ.2.1 pc = .ok (.iaload, 1)) (hin : vp_in i (mo_len k))
    (kk : EV (mo_π l D cl kI kZ tl Z) μ E cells slots (pc + 1) lv (.int (B k i.toNatClampNeg) :: st) (mo_W ci am kI kZ F B)) (hk : mo_R[n]? = some k := by rfl) (hz : mo_Zs.contains k = false := by rfl) : EV (mo_π l D cl kI kZ tl Z) μ E cells slots pc lv (.int i :: .ref (am k) :: st) (mo_W ci am kI kZ F B) := by
  refine ev_iald (cA := kI) (n := mo_len k) (f := B k) pc (n + 1) 0 d ?_ rfl hin kk
  rw [mo_W_at hk, mo_arr, hz]
  rfl
theorem mo_zld {i : Int32} (pc n k : Nat) (d : decode μ.2.1 pc = .ok (.baload, 1)) (hin : vp_in i (mo_len k))
    (kk : EV (mo_π l D cl kI kZ tl Z) μ E cells slots (pc + 1) lv (.int (B k i.toNatClampNeg) :: st) (mo_W ci am kI kZ F B)) (hk : mo_R[n]? = some k := by rfl) (hz : mo_Zs.contains k = true := by rfl) : EV (mo_π l D cl kI kZ tl Z) μ E cells slots pc lv (.int i :: .ref (am k) :: st) (mo_W ci am kI kZ F B) := by
  refine ev_zald (cA := kZ) (n := mo_len k) (f := B k) pc (n + 1) 1 d ?_ rfl hin kk
  rw [mo_W_at hk, mo_arr, hz]
  rfl
theorem mo_ast {i x : Int32} (pc n k : Nat) (d : decode μ.2.1 pc = .ok (.iastore, 1)) (hin : vp_in i (mo_len k))
    (kk : EV (mo_π l D cl kI kZ tl Z) μ E cells slots (pc + 1) lv st (mo_W ci am kI kZ F (va_up B k (upd (B k) i.toNatClampNeg x)))) (hk : mo_R[n]? = some k := by rfl) (hz : mo_Zs.contains k = false := by rfl) : EV (mo_π l D cl kI kZ tl Z) μ E cells slots pc lv (.int x :: .int i :: .ref (am k) :: st) (mo_W ci am kI kZ F B) := by
  refine ev_iast (cA := kI) (n := mo_len k) (f := B k) pc (n + 1) 0 d ?_ rfl hin ?_
  · rw [mo_W_at hk, mo_arr, hz]
    rfl
  · have h := mo_W_set (ci := ci) (am := am) (kI := kI) (kZ := kZ) (F := F) (B := B) (g := upd (B k) i.toNatClampNeg x) hk
    rw [hz] at h
    rw [← h] at kk
    exact kk
theorem mo_zst {i x : Int32} (pc n k : Nat) (d : decode μ.2.1 pc = .ok (.bastore, 1)) (hin : vp_in i (mo_len k))
    (kk : EV (mo_π l D cl kI kZ tl Z) μ E cells slots (pc + 1) lv st (mo_W ci am kI kZ F (va_up B k (upd (B k) i.toNatClampNeg (vp_nar .boolean x))))) (hk : mo_R[n]? = some k := by rfl) (hz : mo_Zs.contains k = true := by rfl) : EV (mo_π l D cl kI kZ tl Z) μ E cells slots pc lv (.int x :: .int i :: .ref (am k) :: st) (mo_W ci am kI kZ F B) := by
  refine ev_zast (cA := kZ) (n := mo_len k) (f := B k) pc (n + 1) 1 d ?_ rfl hin ?_
  · rw [mo_W_at hk, mo_arr, hz]
    rfl
  · have h := mo_W_set (ci := ci) (am := am) (kI := kI) (kZ := kZ) (F := F) (B := B) (g := upd (B k) i.toNatClampNeg (vp_nar .boolean x)) hk
    rw [hz] at h
    rw [← h] at kk
    exact kk
end MO
end
section
abbrev c_mo_thrown : ByteArray := prog_12_method_2_code
abbrev c_mo_refuses : ByteArray := prog_12_method_3_code
abbrev c_mo_isType : ByteArray := prog_12_method_4_code
abbrev c_mo_isInstance : ByteArray := prog_12_method_5_code
abbrev c_mo_upTo : ByteArray := prog_12_method_6_code
abbrev c_mo_part : ByteArray := prog_12_method_7_code
abbrev c_mo_plainSize : ByteArray := prog_12_method_8_code
abbrev c_mo_lays : ByteArray := prog_12_method_9_code
abbrev c_mo_type : ByteArray := prog_12_method_10_code
abbrev c_mo_layout : ByteArray := prog_12_method_11_code
abbrev c_mo_await : ByteArray := prog_12_method_12_code
abbrev c_mo_shared : ByteArray := prog_12_method_13_code
abbrev c_mo_alike : ByteArray := prog_12_method_14_code
abbrev c_mo_misfit : ByteArray := prog_12_method_15_code
abbrev c_mo_fits : ByteArray := prog_12_method_16_code
abbrev c_mo_lends : ByteArray := prog_12_method_17_code
abbrev c_mo_instance : ByteArray := prog_12_method_18_code
abbrev c_mo_function : ByteArray := prog_12_method_19_code
abbrev c_mo_write : ByteArray := prog_12_method_20_code
abbrev c_mo_read : ByteArray := prog_12_method_21_code
abbrev c_mo_enter : ByteArray := prog_12_method_22_code
abbrev c_mo_push : ByteArray := prog_12_method_23_code
abbrev c_mo_leave : ByteArray := prog_12_method_24_code
abbrev c_mo_freeHandle : ByteArray := prog_12_method_25_code
abbrev c_mo_loans : ByteArray := prog_12_method_26_code
abbrev c_mo_make : ByteArray := prog_12_method_27_code
abbrev c_mo_drop : ByteArray := prog_12_method_28_code
abbrev c_mo_handle : ByteArray := prog_12_method_29_code
abbrev c_mo_fails : ByteArray := prog_12_method_30_code
abbrev c_mo_byteAt : ByteArray := prog_12_method_31_code
abbrev c_mo_number : ByteArray := prog_12_method_32_code
abbrev c_mo_readText : ByteArray := prog_12_method_33_code
abbrev c_mo_readHandle : ByteArray := prog_12_method_34_code
abbrev c_mo_readItem : ByteArray := prog_12_method_35_code
abbrev c_mo_readPlain : ByteArray := prog_12_method_36_code
abbrev c_mo_readAll : ByteArray := prog_12_method_37_code
abbrev c_mo_room : ByteArray := prog_12_method_38_code
abbrev c_mo_put : ByteArray := prog_12_method_39_code
abbrev c_mo_writeHandle : ByteArray := prog_12_method_40_code
abbrev c_mo_writeItem : ByteArray := prog_12_method_41_code
abbrev c_mo_pass : ByteArray := prog_12_method_42_code
abbrev c_mo_trapped : ByteArray := prog_12_method_43_code
abbrev c_mo_call : ByteArray := prog_12_method_44_code
abbrev c_mo_back : ByteArray := prog_12_method_45_code
abbrev c_mo_trap : ByteArray := prog_12_method_46_code
abbrev c_mo_passed : ByteArray := prog_12_method_47_code
abbrev c_mo_depth : ByteArray := prog_12_method_48_code
abbrev c_mo_level : ByteArray := prog_12_method_49_code
abbrev c_mo_inUse : ByteArray := prog_12_method_50_code
abbrev c_mo_state : ByteArray := prog_12_method_51_code
abbrev c_mo_close : ByteArray := prog_12_method_52_code
abbrev c_mo_resources : ByteArray := prog_12_method_53_code
abbrev c_mo_latest : ByteArray := prog_12_method_54_code
/-! the reference: records of its methods, the words that they need -/
abbrev mo_C : String := R_mo
abbrev mo_ci : Nat := 9
def mo_rm (k : Nat) : Room := { frames := k, cells := 0, slots := 0, locals := 40 * k }
def mo_wl : List Cond := [.initialized mo_C, .fieldLink mo_C 7 "HostedCallsModel" "kinds" "[I", .fieldLink mo_C 13 "HostedCallsModel" "numbers" "[I", .fieldLink mo_C 16 "HostedCallsModel" "sizes" "[I", .fieldLink mo_C 19 "HostedCallsModel" "aligns" "[I", .fieldLink mo_C 22 "HostedCallsModel" "depths" "[I", .fieldLink mo_C 25 "HostedCallsModel" "counts" "[I", .fieldLink mo_C 28 "HostedCallsModel" "parts" "[I", .fieldLink mo_C 31 "HostedCallsModel" "offsets" "[I", .fieldLink mo_C 34 "HostedCallsModel" "draft" "[I", .fieldLink mo_C 37 "HostedCallsModel" "bytes" "[I", .fieldLink mo_C 40 "HostedCallsModel" "heaps" "[I", .fieldLink mo_C 43 "HostedCallsModel" "states" "[I", .fieldLink mo_C 46 "HostedCallsModel" "used" "[Z", .fieldLink mo_C 50 "HostedCallsModel" "resource" "[I", .fieldLink mo_C 53 "HostedCallsModel" "owned" "[Z", .fieldLink mo_C 56 "HostedCallsModel" "lender" "[I", .fieldLink mo_C 59 "HostedCallsModel" "taken" "[Z", .fieldLink mo_C 62 "HostedCallsModel" "pending" "[I", .fieldLink mo_C 65 "HostedCallsModel" "kindOf" "[I", .fieldLink mo_C 68 "HostedCallsModel" "gone" "[Z", .fieldLink mo_C 71 "HostedCallsModel" "home" "[I", .fieldLink mo_C 74 "HostedCallsModel" "argument" "[I", .fieldLink mo_C 77 "HostedCallsModel" "result" "[I", .fieldLink mo_C 80 "HostedCallsModel" "running" "[I", .fieldLink mo_C 83 "HostedCallsModel" "called" "[I", .fieldLink mo_C 86 "HostedCallsModel" "last" "[I", .fieldLink mo_C 89 "HostedCallsModel" "trapInstance" "I", .fieldLink mo_C 93 "HostedCallsModel" "waitT" "[I", .fieldLink mo_C 96 "HostedCallsModel" "waitU" "[I", .fieldLink mo_C 99 "HostedCallsModel" "waitMany" "[I", .fieldLink mo_C 102 "HostedCallsModel" "waitPlace" "[I", .fieldLink mo_C 105 "HostedCallsModel" "waitAbove" "[I", .fieldLink mo_C 108 "HostedCallsModel" "waitIn" "[I", .fieldLink mo_C 111 "HostedCallsModel" "itemU" "[I", .fieldLink mo_C 114 "HostedCallsModel" "itemPlace" "[I", .fieldLink mo_C 117 "HostedCallsModel" "itemAbove" "[I", .fieldLink mo_C 120 "HostedCallsModel" "itemIn" "[I", .fieldLink mo_C 123 "HostedCallsModel" "itemFrom" "[I", .fieldLink mo_C 126 "HostedCallsModel" "itemMany" "[I", .fieldLink mo_C 129 "HostedCallsModel" "itemTo" "[I", .fieldLink mo_C 132 "HostedCallsModel" "itemRoom" "[I", .fieldLink mo_C 135 "HostedCallsModel" "freshOnes" "[I", .fieldLink mo_C 138 "HostedCallsModel" "layOffsets" "[I", .fieldLink mo_C 141 "HostedCallsModel" "code" "I", .fieldLink mo_C 144 "HostedCallsModel" "types" "I", .fieldLink mo_C 147 "HostedCallsModel" "instances" "I", .fieldLink mo_C 154 "HostedCallsModel" "drafted" "I", .fieldLink mo_C 160 "HostedCallsModel" "layDepth" "I", .fieldLink mo_C 167 "HostedCallsModel" "layAlign" "I", .fieldLink mo_C 170 "HostedCallsModel" "laySize" "I", .fieldLink mo_C 181 "HostedCallsModel" "waits" "I", .fieldLink mo_C 203 "HostedCallsModel" "functions" "I", .fieldLink mo_C 208 "HostedCallsModel" "levels" "I", .fieldLink mo_C 218 "HostedCallsModel" "made" "I", .fieldLink mo_C 224 "HostedCallsModel" "fault" "I", .fieldLink mo_C 227 "HostedCallsModel" "faultPlace" "I", .fieldLink mo_C 237 "HostedCallsModel" "items" "I", .fieldLink mo_C 260 "HostedCallsModel" "fresh" "I", .fieldLink mo_C 278 "HostedCallsModel" "trapCode" "I", .fieldLink mo_C 281 "HostedCallsModel" "trapPlace" "I", .methodLink mo_C 150 ⟨mo_C, "isType", "(I)Z"⟩, .methodLink mo_C 157 ⟨mo_C, "refuses", "(I)Z"⟩, .methodLink mo_C 163 ⟨mo_C, "plainSize", "(I)I"⟩, .methodLink mo_C 173 ⟨mo_C, "upTo", "(II)I"⟩, .methodLink mo_C 177 ⟨mo_C, "lays", "(II)Z"⟩, .methodLink mo_C 184 ⟨mo_C, "await", "(IIIIII)V"⟩, .methodLink mo_C 188 ⟨mo_C, "alike", "(II)Z"⟩, .methodLink mo_C 191 ⟨mo_C, "shared", "(II)I"⟩, .methodLink mo_C 194 ⟨mo_C, "misfit", "(II)I"⟩, .methodLink mo_C 197 ⟨mo_C, "isInstance", "(I)Z"⟩, .methodLink mo_C 200 ⟨mo_C, "lends", "(I)Z"⟩, .methodLink mo_C 211 ⟨mo_C, "push", "(III)V"⟩, .methodLink mo_C 215 ⟨mo_C, "freeHandle", "(I)I"⟩, .methodLink mo_C 221 ⟨mo_C, "loans", "(I)I"⟩, .methodLink mo_C 230 ⟨mo_C, "fails", "(II)V"⟩, .methodLink mo_C 234 ⟨mo_C, "byteAt", "(II)I"⟩, .methodLink mo_C 240 ⟨mo_C, "number", "(III)I"⟩, .methodLink mo_C 244 ⟨mo_C, "readText", "(III)V"⟩, .methodLink mo_C 247 ⟨mo_C, "readHandle", "(IIII)V"⟩, .methodLink mo_C 251 ⟨mo_C, "readPlain", "(III)V"⟩, .methodLink mo_C 257 ⟨mo_C, "readItem", "(IIIIII)V"⟩, .methodLink mo_C 263 ⟨mo_C, "put", "(IIII)V"⟩, .methodLink mo_C 266 ⟨mo_C, "room", "(III)I"⟩, .methodLink mo_C 269 ⟨mo_C, "writeHandle", "(II)V"⟩, .methodLink mo_C 272 ⟨mo_C, "readAll", "(IIII)V"⟩, .methodLink mo_C 275 ⟨mo_C, "writeItem", "(III)V"⟩, .methodLink mo_C 284 ⟨mo_C, "trapped", "(III)I"⟩, .methodLink mo_C 287 ⟨mo_C, "pass", "(IIIII)I"⟩, .methodLink mo_C 291 ⟨mo_C, "inUse", "(I)I"⟩, .instanceMethod ⟨mo_C, "alike", "(II)Z"⟩, .selects mo_C ⟨mo_C, "alike", "(II)Z"⟩ ⟨mo_C, "alike", "(II)Z"⟩, .code ⟨mo_C, "alike", "(II)Z"⟩ c_mo_alike 4 (some .boolean), .instanceMethod ⟨mo_C, "await", "(IIIIII)V"⟩, .selects mo_C ⟨mo_C, "await", "(IIIIII)V"⟩ ⟨mo_C, "await", "(IIIIII)V"⟩, .code ⟨mo_C, "await", "(IIIIII)V"⟩ c_mo_await 7 none, .instanceMethod ⟨mo_C, "byteAt", "(II)I"⟩, .selects mo_C ⟨mo_C, "byteAt", "(II)I"⟩ ⟨mo_C, "byteAt", "(II)I"⟩, .code ⟨mo_C, "byteAt", "(II)I"⟩ c_mo_byteAt 3 (some .int), .instanceMethod ⟨mo_C, "fails", "(II)V"⟩, .selects mo_C ⟨mo_C, "fails", "(II)V"⟩ ⟨mo_C, "fails", "(II)V"⟩, .code ⟨mo_C, "fails", "(II)V"⟩ c_mo_fails 3 none, .instanceMethod ⟨mo_C, "freeHandle", "(I)I"⟩, .selects mo_C ⟨mo_C, "freeHandle", "(I)I"⟩ ⟨mo_C, "freeHandle", "(I)I"⟩, .code ⟨mo_C, "freeHandle", "(I)I"⟩ c_mo_freeHandle 4 (some .int), .instanceMethod ⟨mo_C, "inUse", "(I)I"⟩, .selects mo_C ⟨mo_C, "inUse", "(I)I"⟩ ⟨mo_C, "inUse", "(I)I"⟩, .code ⟨mo_C, "inUse", "(I)I"⟩ c_mo_inUse 4 (some .int), .instanceMethod ⟨mo_C, "isInstance", "(I)Z"⟩, .selects mo_C ⟨mo_C, "isInstance", "(I)Z"⟩ ⟨mo_C, "isInstance", "(I)Z"⟩, .code ⟨mo_C, "isInstance", "(I)Z"⟩ c_mo_isInstance 2 (some .boolean), .instanceMethod ⟨mo_C, "isType", "(I)Z"⟩, .selects mo_C ⟨mo_C, "isType", "(I)Z"⟩ ⟨mo_C, "isType", "(I)Z"⟩, .code ⟨mo_C, "isType", "(I)Z"⟩ c_mo_isType 2 (some .boolean), .instanceMethod ⟨mo_C, "lays", "(II)Z"⟩, .selects mo_C ⟨mo_C, "lays", "(II)Z"⟩ ⟨mo_C, "lays", "(II)Z"⟩, .code ⟨mo_C, "lays", "(II)Z"⟩ c_mo_lays 9 (some .boolean), .instanceMethod ⟨mo_C, "lends", "(I)Z"⟩, .selects mo_C ⟨mo_C, "lends", "(I)Z"⟩ ⟨mo_C, "lends", "(I)Z"⟩, .code ⟨mo_C, "lends", "(I)Z"⟩ c_mo_lends 4 (some .boolean), .instanceMethod ⟨mo_C, "loans", "(I)I"⟩, .selects mo_C ⟨mo_C, "loans", "(I)I"⟩ ⟨mo_C, "loans", "(I)I"⟩, .code ⟨mo_C, "loans", "(I)I"⟩ c_mo_loans 4 (some .int), .instanceMethod ⟨mo_C, "misfit", "(II)I"⟩, .selects mo_C ⟨mo_C, "misfit", "(II)I"⟩ ⟨mo_C, "misfit", "(II)I"⟩, .code ⟨mo_C, "misfit", "(II)I"⟩ c_mo_misfit 7 (some .int), .instanceMethod ⟨mo_C, "number", "(III)I"⟩, .selects mo_C ⟨mo_C, "number", "(III)I"⟩ ⟨mo_C, "number", "(III)I"⟩, .code ⟨mo_C, "number", "(III)I"⟩ c_mo_number 6 (some .int), .instanceMethod ⟨mo_C, "pass", "(IIIII)I"⟩, .selects mo_C ⟨mo_C, "pass", "(IIIII)I"⟩ ⟨mo_C, "pass", "(IIIII)I"⟩, .code ⟨mo_C, "pass", "(IIIII)I"⟩ c_mo_pass 8 (some .int), .static ⟨mo_C, "plainSize", "(I)I"⟩, .code ⟨mo_C, "plainSize", "(I)I"⟩ c_mo_plainSize 1 (some .int), .instanceMethod ⟨mo_C, "push", "(III)V"⟩, .selects mo_C ⟨mo_C, "push", "(III)V"⟩ ⟨mo_C, "push", "(III)V"⟩, .code ⟨mo_C, "push", "(III)V"⟩ c_mo_push 4 none, .instanceMethod ⟨mo_C, "put", "(IIII)V"⟩, .selects mo_C ⟨mo_C, "put", "(IIII)V"⟩ ⟨mo_C, "put", "(IIII)V"⟩, .code ⟨mo_C, "put", "(IIII)V"⟩ c_mo_put 6 none, .instanceMethod ⟨mo_C, "readAll", "(IIII)V"⟩, .selects mo_C ⟨mo_C, "readAll", "(IIII)V"⟩ ⟨mo_C, "readAll", "(IIII)V"⟩, .code ⟨mo_C, "readAll", "(IIII)V"⟩ c_mo_readAll 11 none, .instanceMethod ⟨mo_C, "readHandle", "(IIII)V"⟩, .selects mo_C ⟨mo_C, "readHandle", "(IIII)V"⟩ ⟨mo_C, "readHandle", "(IIII)V"⟩, .code ⟨mo_C, "readHandle", "(IIII)V"⟩ c_mo_readHandle 8 none, .instanceMethod ⟨mo_C, "readItem", "(IIIIII)V"⟩, .selects mo_C ⟨mo_C, "readItem", "(IIIIII)V"⟩ ⟨mo_C, "readItem", "(IIIIII)V"⟩, .code ⟨mo_C, "readItem", "(IIIIII)V"⟩ c_mo_readItem 10 none, .instanceMethod ⟨mo_C, "readPlain", "(III)V"⟩, .selects mo_C ⟨mo_C, "readPlain", "(III)V"⟩ ⟨mo_C, "readPlain", "(III)V"⟩, .code ⟨mo_C, "readPlain", "(III)V"⟩ c_mo_readPlain 7 none, .instanceMethod ⟨mo_C, "readText", "(III)V"⟩, .selects mo_C ⟨mo_C, "readText", "(III)V"⟩ ⟨mo_C, "readText", "(III)V"⟩, .code ⟨mo_C, "readText", "(III)V"⟩ c_mo_readText 11 none, .instanceMethod ⟨mo_C, "refuses", "(I)Z"⟩, .selects mo_C ⟨mo_C, "refuses", "(I)Z"⟩ ⟨mo_C, "refuses", "(I)Z"⟩, .code ⟨mo_C, "refuses", "(I)Z"⟩ c_mo_refuses 2 (some .boolean), .instanceMethod ⟨mo_C, "room", "(III)I"⟩, .selects mo_C ⟨mo_C, "room", "(III)I"⟩ ⟨mo_C, "room", "(III)I"⟩, .code ⟨mo_C, "room", "(III)I"⟩ c_mo_room 6 (some .int), .instanceMethod ⟨mo_C, "shared", "(II)I"⟩, .selects mo_C ⟨mo_C, "shared", "(II)I"⟩ ⟨mo_C, "shared", "(II)I"⟩, .code ⟨mo_C, "shared", "(II)I"⟩ c_mo_shared 3 (some .int), .instanceMethod ⟨mo_C, "trapped", "(III)I"⟩, .selects mo_C ⟨mo_C, "trapped", "(III)I"⟩ ⟨mo_C, "trapped", "(III)I"⟩, .code ⟨mo_C, "trapped", "(III)I"⟩ c_mo_trapped 5 (some .int), .static ⟨mo_C, "upTo", "(II)I"⟩, .code ⟨mo_C, "upTo", "(II)I"⟩ c_mo_upTo 2 (some .int), .instanceMethod ⟨mo_C, "writeHandle", "(II)V"⟩, .selects mo_C ⟨mo_C, "writeHandle", "(II)V"⟩ ⟨mo_C, "writeHandle", "(II)V"⟩, .code ⟨mo_C, "writeHandle", "(II)V"⟩ c_mo_writeHandle 5 none, .instanceMethod ⟨mo_C, "writeItem", "(III)V"⟩, .selects mo_C ⟨mo_C, "writeItem", "(III)V"⟩ ⟨mo_C, "writeItem", "(III)V"⟩, .code ⟨mo_C, "writeItem", "(III)V"⟩ c_mo_writeItem 9 none, .constantLong mo_C 206 255, .constant mo_C 254 1114111, .constant mo_C 255 55295, .constant mo_C 256 57344]
def mo_ws : List Cond := mo_wl ++ u_ws R_mo T_mo 60
def mo_m (k : Nat) (nm ds : String) (cc : ByteArray) (nL : Nat) (rt : Option FieldType) : ev_M := (⟨mo_C, nm, ds⟩, cc, nL, rt, Cond.code ⟨mo_C, nm, ds⟩ cc nL rt :: mo_ws, mo_rm k)
abbrev m_thrown : ev_M := mo_m 0 "thrown" "()I" c_mo_thrown 1 (some .int)
abbrev m_refuses : ev_M := mo_m 0 "refuses" "(I)Z" c_mo_refuses 2 (some .boolean)
abbrev m_isType : ev_M := mo_m 0 "isType" "(I)Z" c_mo_isType 2 (some .boolean)
abbrev m_isInstance : ev_M := mo_m 0 "isInstance" "(I)Z" c_mo_isInstance 2 (some .boolean)
abbrev m_upTo : ev_M := mo_m 0 "upTo" "(II)I" c_mo_upTo 2 (some .int)
abbrev m_part : ev_M := mo_m 1 "part" "(I)I" c_mo_part 2 (some .int)
abbrev m_plainSize : ev_M := mo_m 0 "plainSize" "(I)I" c_mo_plainSize 1 (some .int)
abbrev m_lays : ev_M := mo_m 1 "lays" "(II)Z" c_mo_lays 9 (some .boolean)
abbrev m_type : ev_M := mo_m 2 "type" "(II)I" c_mo_type 5 (some .int)
abbrev m_layout : ev_M := mo_m 1 "layout" "(II)I" c_mo_layout 3 (some .int)
abbrev m_await : ev_M := mo_m 0 "await" "(IIIIII)V" c_mo_await 7 none
abbrev m_shared : ev_M := mo_m 0 "shared" "(II)I" c_mo_shared 3 (some .int)
abbrev m_alike : ev_M := mo_m 0 "alike" "(II)Z" c_mo_alike 4 (some .boolean)
abbrev m_misfit : ev_M := mo_m 1 "misfit" "(II)I" c_mo_misfit 7 (some .int)
abbrev m_fits : ev_M := mo_m 2 "fits" "(II)I" c_mo_fits 3 (some .int)
abbrev m_lends : ev_M := mo_m 1 "lends" "(I)Z" c_mo_lends 4 (some .boolean)
abbrev m_instance : ev_M := mo_m 1 "instance" "()I" c_mo_instance 1 (some .int)
abbrev m_function : ev_M := mo_m 2 "function" "(III)I" c_mo_function 4 (some .int)
abbrev m_write : ev_M := mo_m 1 "write" "(IIIJ)V" c_mo_write 7 none
abbrev m_read : ev_M := mo_m 1 "read" "(II)I" c_mo_read 3 (some .int)
abbrev m_enter : ev_M := mo_m 1 "enter" "(I)V" c_mo_enter 2 none
abbrev m_push : ev_M := mo_m 0 "push" "(III)V" c_mo_push 4 none
abbrev m_leave : ev_M := mo_m 1 "leave" "()V" c_mo_leave 1 none
abbrev m_freeHandle : ev_M := mo_m 0 "freeHandle" "(I)I" c_mo_freeHandle 4 (some .int)
abbrev m_loans : ev_M := mo_m 0 "loans" "(I)I" c_mo_loans 4 (some .int)
abbrev m_make : ev_M := mo_m 1 "make" "(I)I" c_mo_make 4 (some .int)
abbrev m_drop : ev_M := mo_m 1 "drop" "(I)Z" c_mo_drop 4 (some .boolean)
abbrev m_handle : ev_M := mo_m 1 "handle" "(III)I" c_mo_handle 5 (some .int)
abbrev m_fails : ev_M := mo_m 0 "fails" "(II)V" c_mo_fails 3 none
abbrev m_byteAt : ev_M := mo_m 1 "byteAt" "(II)I" c_mo_byteAt 3 (some .int)
abbrev m_number : ev_M := mo_m 2 "number" "(III)I" c_mo_number 6 (some .int)
abbrev m_readText : ev_M := mo_m 2 "readText" "(III)V" c_mo_readText 11 none
abbrev m_readHandle : ev_M := mo_m 2 "readHandle" "(IIII)V" c_mo_readHandle 8 none
abbrev m_readItem : ev_M := mo_m 4 "readItem" "(IIIIII)V" c_mo_readItem 10 none
abbrev m_readPlain : ev_M := mo_m 3 "readPlain" "(III)V" c_mo_readPlain 7 none
abbrev m_readAll : ev_M := mo_m 5 "readAll" "(IIII)V" c_mo_readAll 11 none
abbrev m_room : ev_M := mo_m 1 "room" "(III)I" c_mo_room 6 (some .int)
abbrev m_put : ev_M := mo_m 0 "put" "(IIII)V" c_mo_put 6 none
abbrev m_writeHandle : ev_M := mo_m 1 "writeHandle" "(II)V" c_mo_writeHandle 5 none
abbrev m_writeItem : ev_M := mo_m 2 "writeItem" "(III)V" c_mo_writeItem 9 none
abbrev m_pass : ev_M := mo_m 6 "pass" "(IIIII)I" c_mo_pass 8 (some .int)
abbrev m_trapped : ev_M := mo_m 0 "trapped" "(III)I" c_mo_trapped 5 (some .int)
abbrev m_call : ev_M := mo_m 7 "call" "(III)I" c_mo_call 8 (some .int)
abbrev m_back : ev_M := mo_m 7 "back" "(II)I" c_mo_back 7 (some .int)
abbrev m_trap : ev_M := mo_m 1 "trap" "()V" c_mo_trap 1 none
abbrev m_passed : ev_M := mo_m 0 "passed" "()I" c_mo_passed 1 (some .int)
abbrev m_depth : ev_M := mo_m 0 "depth" "()I" c_mo_depth 1 (some .int)
abbrev m_level : ev_M := mo_m 0 "level" "(I)I" c_mo_level 2 (some .int)
abbrev m_inUse : ev_M := mo_m 0 "inUse" "(I)I" c_mo_inUse 4 (some .int)
abbrev m_state : ev_M := mo_m 1 "state" "(II)I" c_mo_state 3 (some .int)
abbrev m_close : ev_M := mo_m 1 "close" "(I)I" c_mo_close 5 (some .int)
abbrev m_resources : ev_M := mo_m 1 "resources" "(IZ)I" c_mo_resources 5 (some .int)
abbrev m_latest : ev_M := mo_m 1 "latest" "(I)I" c_mo_latest 2 (some .int)
theorem mo_pl : plainName mo_C = true := by decide +kernel
theorem mo_n1 : mo_C ≠ "java/lang/invoke/MethodHandle" := by decide +kernel
theorem mo_n2 : mo_C ≠ "java/lang/invoke/VarHandle" := by decide +kernel
theorem mo_inl {w : Cond} {i : Nat} (h : mo_wl[i]? = some w) : w ∈ mo_ws := List.mem_append_left _ (List.mem_of_getElem? h)
theorem mo_inu : ∀ w ∈ u_ws R_mo T_mo 60, w ∈ mo_ws := fun _ h => List.mem_append_right _ h
theorem mo_gd : ∀ w ∈ mo_ws, goodWord w = true := by decide +kernel
theorem lk_of {w : Cond} {idx k i : Nat} (hk : k < 60) (h : mo_wl[i]? = some (Cond.fieldLink mo_C idx (T_mo k).1 (T_mo k).2.1 (T_mo k).2.2.1)) : ev_F cl_A (w :: mo_ws) mo_C idx mo_ci k :=
  ⟨R_mo, T_mo, 60, rfl, fun _ h => List.mem_cons_of_mem _ (mo_inu _ h), hk, List.mem_cons_of_mem _ (mo_inl h)⟩
theorem lp_of {w : Cond} {idx k i : Nat} {ty : FieldType} (hk : k < 60) (h : mo_wl[i]? = some (Cond.fieldLink mo_C idx (T_mo k).1 (T_mo k).2.1 (T_mo k).2.2.1)) (hf : (T_mo k).2.2.2 = false) (ht : parseFieldDescriptor (T_mo k).2.2.1 = some ty) : ev_FP cl_A (w :: mo_ws) mo_C idx mo_ci k ty :=
  ⟨R_mo, T_mo, 60, t_mo, rfl, fun _ h => List.mem_cons_of_mem _ (mo_inu _ h), hk, List.mem_cons_of_mem _ (mo_inl h), t_mo_ok, n_mo_ok, hf, ht⟩
theorem lk_7 {w : Cond} : ev_F cl_A (w :: mo_ws) mo_C 7 mo_ci 2 := lk_of (i := 1) (by decide) rfl
theorem lk_13 {w : Cond} : ev_F cl_A (w :: mo_ws) mo_C 13 mo_ci 3 := lk_of (i := 2) (by decide) rfl
theorem lk_16 {w : Cond} : ev_F cl_A (w :: mo_ws) mo_C 16 mo_ci 4 := lk_of (i := 3) (by decide) rfl
theorem lk_19 {w : Cond} : ev_F cl_A (w :: mo_ws) mo_C 19 mo_ci 5 := lk_of (i := 4) (by decide) rfl
theorem lk_22 {w : Cond} : ev_F cl_A (w :: mo_ws) mo_C 22 mo_ci 6 := lk_of (i := 5) (by decide) rfl
theorem lk_25 {w : Cond} : ev_F cl_A (w :: mo_ws) mo_C 25 mo_ci 7 := lk_of (i := 6) (by decide) rfl
theorem lk_28 {w : Cond} : ev_F cl_A (w :: mo_ws) mo_C 28 mo_ci 8 := lk_of (i := 7) (by decide) rfl
theorem lk_31 {w : Cond} : ev_F cl_A (w :: mo_ws) mo_C 31 mo_ci 9 := lk_of (i := 8) (by decide) rfl
theorem lk_34 {w : Cond} : ev_F cl_A (w :: mo_ws) mo_C 34 mo_ci 11 := lk_of (i := 9) (by decide) rfl
theorem lk_37 {w : Cond} : ev_F cl_A (w :: mo_ws) mo_C 37 mo_ci 13 := lk_of (i := 10) (by decide) rfl
theorem lk_40 {w : Cond} : ev_F cl_A (w :: mo_ws) mo_C 40 mo_ci 14 := lk_of (i := 11) (by decide) rfl
theorem lk_43 {w : Cond} : ev_F cl_A (w :: mo_ws) mo_C 43 mo_ci 15 := lk_of (i := 12) (by decide) rfl
theorem lk_46 {w : Cond} : ev_F cl_A (w :: mo_ws) mo_C 46 mo_ci 16 := lk_of (i := 13) (by decide) rfl
theorem lk_50 {w : Cond} : ev_F cl_A (w :: mo_ws) mo_C 50 mo_ci 17 := lk_of (i := 14) (by decide) rfl
theorem lk_53 {w : Cond} : ev_F cl_A (w :: mo_ws) mo_C 53 mo_ci 18 := lk_of (i := 15) (by decide) rfl
theorem lk_56 {w : Cond} : ev_F cl_A (w :: mo_ws) mo_C 56 mo_ci 19 := lk_of (i := 16) (by decide) rfl
theorem lk_59 {w : Cond} : ev_F cl_A (w :: mo_ws) mo_C 59 mo_ci 20 := lk_of (i := 17) (by decide) rfl
theorem lk_62 {w : Cond} : ev_F cl_A (w :: mo_ws) mo_C 62 mo_ci 21 := lk_of (i := 18) (by decide) rfl
theorem lk_65 {w : Cond} : ev_F cl_A (w :: mo_ws) mo_C 65 mo_ci 23 := lk_of (i := 19) (by decide) rfl
theorem lk_68 {w : Cond} : ev_F cl_A (w :: mo_ws) mo_C 68 mo_ci 24 := lk_of (i := 20) (by decide) rfl
theorem lk_71 {w : Cond} : ev_F cl_A (w :: mo_ws) mo_C 71 mo_ci 26 := lk_of (i := 21) (by decide) rfl
theorem lk_74 {w : Cond} : ev_F cl_A (w :: mo_ws) mo_C 74 mo_ci 27 := lk_of (i := 22) (by decide) rfl
theorem lk_77 {w : Cond} : ev_F cl_A (w :: mo_ws) mo_C 77 mo_ci 28 := lk_of (i := 23) (by decide) rfl
theorem lk_80 {w : Cond} : ev_F cl_A (w :: mo_ws) mo_C 80 mo_ci 30 := lk_of (i := 24) (by decide) rfl
theorem lk_83 {w : Cond} : ev_F cl_A (w :: mo_ws) mo_C 83 mo_ci 31 := lk_of (i := 25) (by decide) rfl
theorem lk_86 {w : Cond} : ev_F cl_A (w :: mo_ws) mo_C 86 mo_ci 32 := lk_of (i := 26) (by decide) rfl
theorem lk_89 {w : Cond} : ev_F cl_A (w :: mo_ws) mo_C 89 mo_ci 35 := lk_of (i := 27) (by decide) rfl
theorem lp_89 {w : Cond} : ev_FP cl_A (w :: mo_ws) mo_C 89 mo_ci 35 .int := lp_of (i := 27) (by decide) rfl rfl (by decide +kernel)
theorem lk_93 {w : Cond} : ev_F cl_A (w :: mo_ws) mo_C 93 mo_ci 37 := lk_of (i := 28) (by decide) rfl
theorem lk_96 {w : Cond} : ev_F cl_A (w :: mo_ws) mo_C 96 mo_ci 38 := lk_of (i := 29) (by decide) rfl
theorem lk_99 {w : Cond} : ev_F cl_A (w :: mo_ws) mo_C 99 mo_ci 39 := lk_of (i := 30) (by decide) rfl
theorem lk_102 {w : Cond} : ev_F cl_A (w :: mo_ws) mo_C 102 mo_ci 40 := lk_of (i := 31) (by decide) rfl
theorem lk_105 {w : Cond} : ev_F cl_A (w :: mo_ws) mo_C 105 mo_ci 41 := lk_of (i := 32) (by decide) rfl
theorem lk_108 {w : Cond} : ev_F cl_A (w :: mo_ws) mo_C 108 mo_ci 42 := lk_of (i := 33) (by decide) rfl
theorem lk_111 {w : Cond} : ev_F cl_A (w :: mo_ws) mo_C 111 mo_ci 44 := lk_of (i := 34) (by decide) rfl
theorem lk_114 {w : Cond} : ev_F cl_A (w :: mo_ws) mo_C 114 mo_ci 45 := lk_of (i := 35) (by decide) rfl
theorem lk_117 {w : Cond} : ev_F cl_A (w :: mo_ws) mo_C 117 mo_ci 46 := lk_of (i := 36) (by decide) rfl
theorem lk_120 {w : Cond} : ev_F cl_A (w :: mo_ws) mo_C 120 mo_ci 47 := lk_of (i := 37) (by decide) rfl
theorem lk_123 {w : Cond} : ev_F cl_A (w :: mo_ws) mo_C 123 mo_ci 48 := lk_of (i := 38) (by decide) rfl
theorem lk_126 {w : Cond} : ev_F cl_A (w :: mo_ws) mo_C 126 mo_ci 49 := lk_of (i := 39) (by decide) rfl
theorem lk_129 {w : Cond} : ev_F cl_A (w :: mo_ws) mo_C 129 mo_ci 50 := lk_of (i := 40) (by decide) rfl
theorem lk_132 {w : Cond} : ev_F cl_A (w :: mo_ws) mo_C 132 mo_ci 51 := lk_of (i := 41) (by decide) rfl
theorem lk_135 {w : Cond} : ev_F cl_A (w :: mo_ws) mo_C 135 mo_ci 53 := lk_of (i := 42) (by decide) rfl
theorem lk_138 {w : Cond} : ev_F cl_A (w :: mo_ws) mo_C 138 mo_ci 59 := lk_of (i := 43) (by decide) rfl
theorem lk_141 {w : Cond} : ev_F cl_A (w :: mo_ws) mo_C 141 mo_ci 0 := lk_of (i := 44) (by decide) rfl
theorem lp_141 {w : Cond} : ev_FP cl_A (w :: mo_ws) mo_C 141 mo_ci 0 .int := lp_of (i := 44) (by decide) rfl rfl (by decide +kernel)
theorem lk_144 {w : Cond} : ev_F cl_A (w :: mo_ws) mo_C 144 mo_ci 1 := lk_of (i := 45) (by decide) rfl
theorem lp_144 {w : Cond} : ev_FP cl_A (w :: mo_ws) mo_C 144 mo_ci 1 .int := lp_of (i := 45) (by decide) rfl rfl (by decide +kernel)
theorem lk_147 {w : Cond} : ev_F cl_A (w :: mo_ws) mo_C 147 mo_ci 12 := lk_of (i := 46) (by decide) rfl
theorem lp_147 {w : Cond} : ev_FP cl_A (w :: mo_ws) mo_C 147 mo_ci 12 .int := lp_of (i := 46) (by decide) rfl rfl (by decide +kernel)
theorem lk_154 {w : Cond} : ev_F cl_A (w :: mo_ws) mo_C 154 mo_ci 10 := lk_of (i := 47) (by decide) rfl
theorem lp_154 {w : Cond} : ev_FP cl_A (w :: mo_ws) mo_C 154 mo_ci 10 .int := lp_of (i := 47) (by decide) rfl rfl (by decide +kernel)
theorem lk_160 {w : Cond} : ev_F cl_A (w :: mo_ws) mo_C 160 mo_ci 56 := lk_of (i := 48) (by decide) rfl
theorem lp_160 {w : Cond} : ev_FP cl_A (w :: mo_ws) mo_C 160 mo_ci 56 .int := lp_of (i := 48) (by decide) rfl rfl (by decide +kernel)
theorem lk_167 {w : Cond} : ev_F cl_A (w :: mo_ws) mo_C 167 mo_ci 57 := lk_of (i := 49) (by decide) rfl
theorem lp_167 {w : Cond} : ev_FP cl_A (w :: mo_ws) mo_C 167 mo_ci 57 .int := lp_of (i := 49) (by decide) rfl rfl (by decide +kernel)
theorem lk_170 {w : Cond} : ev_F cl_A (w :: mo_ws) mo_C 170 mo_ci 58 := lk_of (i := 50) (by decide) rfl
theorem lp_170 {w : Cond} : ev_FP cl_A (w :: mo_ws) mo_C 170 mo_ci 58 .int := lp_of (i := 50) (by decide) rfl rfl (by decide +kernel)
theorem lk_181 {w : Cond} : ev_F cl_A (w :: mo_ws) mo_C 181 mo_ci 36 := lk_of (i := 51) (by decide) rfl
theorem lp_181 {w : Cond} : ev_FP cl_A (w :: mo_ws) mo_C 181 mo_ci 36 .int := lp_of (i := 51) (by decide) rfl rfl (by decide +kernel)
theorem lk_203 {w : Cond} : ev_F cl_A (w :: mo_ws) mo_C 203 mo_ci 25 := lk_of (i := 52) (by decide) rfl
theorem lp_203 {w : Cond} : ev_FP cl_A (w :: mo_ws) mo_C 203 mo_ci 25 .int := lp_of (i := 52) (by decide) rfl rfl (by decide +kernel)
theorem lk_208 {w : Cond} : ev_F cl_A (w :: mo_ws) mo_C 208 mo_ci 29 := lk_of (i := 53) (by decide) rfl
theorem lp_208 {w : Cond} : ev_FP cl_A (w :: mo_ws) mo_C 208 mo_ci 29 .int := lp_of (i := 53) (by decide) rfl rfl (by decide +kernel)
theorem lk_218 {w : Cond} : ev_F cl_A (w :: mo_ws) mo_C 218 mo_ci 22 := lk_of (i := 54) (by decide) rfl
theorem lp_218 {w : Cond} : ev_FP cl_A (w :: mo_ws) mo_C 218 mo_ci 22 .int := lp_of (i := 54) (by decide) rfl rfl (by decide +kernel)
theorem lk_224 {w : Cond} : ev_F cl_A (w :: mo_ws) mo_C 224 mo_ci 54 := lk_of (i := 55) (by decide) rfl
theorem lp_224 {w : Cond} : ev_FP cl_A (w :: mo_ws) mo_C 224 mo_ci 54 .int := lp_of (i := 55) (by decide) rfl rfl (by decide +kernel)
theorem lk_227 {w : Cond} : ev_F cl_A (w :: mo_ws) mo_C 227 mo_ci 55 := lk_of (i := 56) (by decide) rfl
theorem lp_227 {w : Cond} : ev_FP cl_A (w :: mo_ws) mo_C 227 mo_ci 55 .int := lp_of (i := 56) (by decide) rfl rfl (by decide +kernel)
theorem lk_237 {w : Cond} : ev_F cl_A (w :: mo_ws) mo_C 237 mo_ci 43 := lk_of (i := 57) (by decide) rfl
theorem lp_237 {w : Cond} : ev_FP cl_A (w :: mo_ws) mo_C 237 mo_ci 43 .int := lp_of (i := 57) (by decide) rfl rfl (by decide +kernel)
theorem lk_260 {w : Cond} : ev_F cl_A (w :: mo_ws) mo_C 260 mo_ci 52 := lk_of (i := 58) (by decide) rfl
theorem lp_260 {w : Cond} : ev_FP cl_A (w :: mo_ws) mo_C 260 mo_ci 52 .int := lp_of (i := 58) (by decide) rfl rfl (by decide +kernel)
theorem lk_278 {w : Cond} : ev_F cl_A (w :: mo_ws) mo_C 278 mo_ci 33 := lk_of (i := 59) (by decide) rfl
theorem lp_278 {w : Cond} : ev_FP cl_A (w :: mo_ws) mo_C 278 mo_ci 33 .int := lp_of (i := 59) (by decide) rfl rfl (by decide +kernel)
theorem lk_281 {w : Cond} : ev_F cl_A (w :: mo_ws) mo_C 281 mo_ci 34 := lk_of (i := 60) (by decide) rfl
theorem lp_281 {w : Cond} : ev_FP cl_A (w :: mo_ws) mo_C 281 mo_ci 34 .int := lp_of (i := 60) (by decide) rfl rfl (by decide +kernel)
theorem kq_206 {w : Cond} : Cond.constantLong mo_C 206 255 ∈ (w :: mo_ws) := List.mem_cons_of_mem _ (mo_inl (i := 175) rfl)
theorem kq_254 {w : Cond} : Cond.constant mo_C 254 1114111 ∈ (w :: mo_ws) := List.mem_cons_of_mem _ (mo_inl (i := 176) rfl)
theorem kq_255 {w : Cond} : Cond.constant mo_C 255 55295 ∈ (w :: mo_ws) := List.mem_cons_of_mem _ (mo_inl (i := 177) rfl)
theorem kq_256 {w : Cond} : Cond.constant mo_C 256 57344 ∈ (w :: mo_ws) := List.mem_cons_of_mem _ (mo_inl (i := 178) rfl)
theorem mo_gw {c c' : Cond} (h : c' ∈ mo_ws) (l0 : List Cond) (hl : ∀ w ∈ l0, w ∈ mo_ws) : GoodIn (c :: mo_ws) (l0 ++ c' :: mo_ws) := by
  have key : ∀ w ∈ mo_ws, w ∈ c :: mo_ws ∧ ((w.onTables && w.keeps) = true ∨ ∃ ty, w = .arrayClass ty) := fun w h => ⟨List.mem_cons_of_mem _ h, good_of_word (mo_gd w h)⟩
  intro w hw
  rcases List.mem_append.mp hw with hw | hw
  · exact key w (hl w hw)
  · rcases List.mem_cons.mp hw with rfl | hw
    · exact key _ h
    · exact key w hw
theorem kv_of {k k' : Nat} {nm ds nm' ds' : String} {cc cc' : ByteArray} {nL nL' idx n i0 i1 i2 i3 : Nat} {rt rt' : Option FieldType} (h0 : mo_wl[i0]? = some (.methodLink mo_C idx ⟨mo_C, nm', ds'⟩)) (h1 : mo_wl[i1]? = some (.instanceMethod ⟨mo_C, nm', ds'⟩)) (h2 : mo_wl[i2]? = some (.selects mo_C ⟨mo_C, nm', ds'⟩ ⟨mo_C, nm', ds'⟩)) (h3 : mo_wl[i3]? = some (.code ⟨mo_C, nm', ds'⟩ cc' nL' rt')) (hd : (parseMethodDescriptor ds').map (fun d => d.parameters.length) = some n) : ev_kV (mo_m k nm ds cc nL rt) (mo_m k' nm' ds' cc' nL' rt') idx n := by
  refine ⟨mo_gw (mo_inl h3) [_, _, _, _] ?_, ⟨_, rfl⟩, mo_n1, mo_n2, hd⟩
  intro w hw
  simp only [List.mem_cons, List.not_mem_nil, or_false] at hw
  rcases hw with rfl | rfl | rfl | rfl
  · exact mo_inl h0
  · exact mo_inl h1
  · exact mo_inl h2
  · exact mo_inl (i := 0) rfl
theorem ks_of {k k' : Nat} {nm ds nm' ds' : String} {cc cc' : ByteArray} {nL nL' idx n i0 i1 i3 : Nat} {rt rt' : Option FieldType} (h0 : mo_wl[i0]? = some (.methodLink mo_C idx ⟨mo_C, nm', ds'⟩)) (h1 : mo_wl[i1]? = some (.static ⟨mo_C, nm', ds'⟩)) (h3 : mo_wl[i3]? = some (.code ⟨mo_C, nm', ds'⟩ cc' nL' rt')) (hd : (parseMethodDescriptor ds').map (fun d => d.parameters.length) = some n) : ev_kS (mo_m k nm ds cc nL rt) (mo_m k' nm' ds' cc' nL' rt') idx n := by
  refine ⟨mo_gw (mo_inl h3) [_, _, _] ?_, ⟨_, rfl⟩, mo_n1, mo_n2, hd⟩
  intro w hw
  simp only [List.mem_cons, List.not_mem_nil, or_false] at hw
  rcases hw with rfl | rfl | rfl
  · exact mo_inl h0
  · exact mo_inl h1
  · exact mo_inl (i := 0) rfl
theorem kr_of {k k' : Nat} {nm ds nm' ds' : String} {cc cc' : ByteArray} {nL nL' : Nat} {rt rt' : Option FieldType} (h : k' < k) (hn : nL' ≤ 21) : ev_kR (mo_m k nm ds cc nL rt) (mo_m k' nm' ds' cc' nL' rt') 0 0 0 0 := by
  refine ⟨rfl, rfl, ⟨h, ?_⟩, Nat.le_refl _, Nat.le_refl _⟩
  show 8 + (nL' + 11) + 40 * k' ≤ 40 * k
  omega
theorem kc_150 {k nL : Nat} {nm ds : String} {cc : ByteArray} {rt : Option FieldType} : ev_kV (mo_m k nm ds cc nL rt) m_isType 150 1 := kv_of (i0 := 61) (i1 := 111) (i2 := 112) (i3 := 113) rfl rfl rfl rfl (by decide +kernel)
theorem kc_157 {k nL : Nat} {nm ds : String} {cc : ByteArray} {rt : Option FieldType} : ev_kV (mo_m k nm ds cc nL rt) m_refuses 157 1 := kv_of (i0 := 62) (i1 := 155) (i2 := 156) (i3 := 157) rfl rfl rfl rfl (by decide +kernel)
theorem kc_163 {k nL : Nat} {nm ds : String} {cc : ByteArray} {rt : Option FieldType} : ev_kS (mo_m k nm ds cc nL rt) m_plainSize 163 1 := ks_of (i0 := 63) (i1 := 132) (i3 := 133) rfl rfl rfl (by decide +kernel)
theorem kc_173 {k nL : Nat} {nm ds : String} {cc : ByteArray} {rt : Option FieldType} : ev_kS (mo_m k nm ds cc nL rt) m_upTo 173 2 := ks_of (i0 := 64) (i1 := 167) (i3 := 168) rfl rfl rfl (by decide +kernel)
theorem kc_177 {k nL : Nat} {nm ds : String} {cc : ByteArray} {rt : Option FieldType} : ev_kV (mo_m k nm ds cc nL rt) m_lays 177 2 := kv_of (i0 := 65) (i1 := 114) (i2 := 115) (i3 := 116) rfl rfl rfl rfl (by decide +kernel)
theorem kc_184 {k nL : Nat} {nm ds : String} {cc : ByteArray} {rt : Option FieldType} : ev_kV (mo_m k nm ds cc nL rt) m_await 184 6 := kv_of (i0 := 66) (i1 := 93) (i2 := 94) (i3 := 95) rfl rfl rfl rfl (by decide +kernel)
theorem kc_188 {k nL : Nat} {nm ds : String} {cc : ByteArray} {rt : Option FieldType} : ev_kV (mo_m k nm ds cc nL rt) m_alike 188 2 := kv_of (i0 := 67) (i1 := 90) (i2 := 91) (i3 := 92) rfl rfl rfl rfl (by decide +kernel)
theorem kc_191 {k nL : Nat} {nm ds : String} {cc : ByteArray} {rt : Option FieldType} : ev_kV (mo_m k nm ds cc nL rt) m_shared 191 2 := kv_of (i0 := 68) (i1 := 161) (i2 := 162) (i3 := 163) rfl rfl rfl rfl (by decide +kernel)
theorem kc_194 {k nL : Nat} {nm ds : String} {cc : ByteArray} {rt : Option FieldType} : ev_kV (mo_m k nm ds cc nL rt) m_misfit 194 2 := kv_of (i0 := 69) (i1 := 123) (i2 := 124) (i3 := 125) rfl rfl rfl rfl (by decide +kernel)
theorem kc_197 {k nL : Nat} {nm ds : String} {cc : ByteArray} {rt : Option FieldType} : ev_kV (mo_m k nm ds cc nL rt) m_isInstance 197 1 := kv_of (i0 := 70) (i1 := 108) (i2 := 109) (i3 := 110) rfl rfl rfl rfl (by decide +kernel)
theorem kc_200 {k nL : Nat} {nm ds : String} {cc : ByteArray} {rt : Option FieldType} : ev_kV (mo_m k nm ds cc nL rt) m_lends 200 1 := kv_of (i0 := 71) (i1 := 117) (i2 := 118) (i3 := 119) rfl rfl rfl rfl (by decide +kernel)
theorem kc_211 {k nL : Nat} {nm ds : String} {cc : ByteArray} {rt : Option FieldType} : ev_kV (mo_m k nm ds cc nL rt) m_push 211 3 := kv_of (i0 := 72) (i1 := 134) (i2 := 135) (i3 := 136) rfl rfl rfl rfl (by decide +kernel)
theorem kc_215 {k nL : Nat} {nm ds : String} {cc : ByteArray} {rt : Option FieldType} : ev_kV (mo_m k nm ds cc nL rt) m_freeHandle 215 1 := kv_of (i0 := 73) (i1 := 102) (i2 := 103) (i3 := 104) rfl rfl rfl rfl (by decide +kernel)
theorem kc_221 {k nL : Nat} {nm ds : String} {cc : ByteArray} {rt : Option FieldType} : ev_kV (mo_m k nm ds cc nL rt) m_loans 221 1 := kv_of (i0 := 74) (i1 := 120) (i2 := 121) (i3 := 122) rfl rfl rfl rfl (by decide +kernel)
theorem kc_230 {k nL : Nat} {nm ds : String} {cc : ByteArray} {rt : Option FieldType} : ev_kV (mo_m k nm ds cc nL rt) m_fails 230 2 := kv_of (i0 := 75) (i1 := 99) (i2 := 100) (i3 := 101) rfl rfl rfl rfl (by decide +kernel)
theorem kc_234 {k nL : Nat} {nm ds : String} {cc : ByteArray} {rt : Option FieldType} : ev_kV (mo_m k nm ds cc nL rt) m_byteAt 234 2 := kv_of (i0 := 76) (i1 := 96) (i2 := 97) (i3 := 98) rfl rfl rfl rfl (by decide +kernel)
theorem kc_240 {k nL : Nat} {nm ds : String} {cc : ByteArray} {rt : Option FieldType} : ev_kV (mo_m k nm ds cc nL rt) m_number 240 3 := kv_of (i0 := 77) (i1 := 126) (i2 := 127) (i3 := 128) rfl rfl rfl rfl (by decide +kernel)
theorem kc_244 {k nL : Nat} {nm ds : String} {cc : ByteArray} {rt : Option FieldType} : ev_kV (mo_m k nm ds cc nL rt) m_readText 244 3 := kv_of (i0 := 78) (i1 := 152) (i2 := 153) (i3 := 154) rfl rfl rfl rfl (by decide +kernel)
theorem kc_247 {k nL : Nat} {nm ds : String} {cc : ByteArray} {rt : Option FieldType} : ev_kV (mo_m k nm ds cc nL rt) m_readHandle 247 4 := kv_of (i0 := 79) (i1 := 143) (i2 := 144) (i3 := 145) rfl rfl rfl rfl (by decide +kernel)
theorem kc_251 {k nL : Nat} {nm ds : String} {cc : ByteArray} {rt : Option FieldType} : ev_kV (mo_m k nm ds cc nL rt) m_readPlain 251 3 := kv_of (i0 := 80) (i1 := 149) (i2 := 150) (i3 := 151) rfl rfl rfl rfl (by decide +kernel)
theorem kc_257 {k nL : Nat} {nm ds : String} {cc : ByteArray} {rt : Option FieldType} : ev_kV (mo_m k nm ds cc nL rt) m_readItem 257 6 := kv_of (i0 := 81) (i1 := 146) (i2 := 147) (i3 := 148) rfl rfl rfl rfl (by decide +kernel)
theorem kc_263 {k nL : Nat} {nm ds : String} {cc : ByteArray} {rt : Option FieldType} : ev_kV (mo_m k nm ds cc nL rt) m_put 263 4 := kv_of (i0 := 82) (i1 := 137) (i2 := 138) (i3 := 139) rfl rfl rfl rfl (by decide +kernel)
theorem kc_266 {k nL : Nat} {nm ds : String} {cc : ByteArray} {rt : Option FieldType} : ev_kV (mo_m k nm ds cc nL rt) m_room 266 3 := kv_of (i0 := 83) (i1 := 158) (i2 := 159) (i3 := 160) rfl rfl rfl rfl (by decide +kernel)
theorem kc_269 {k nL : Nat} {nm ds : String} {cc : ByteArray} {rt : Option FieldType} : ev_kV (mo_m k nm ds cc nL rt) m_writeHandle 269 2 := kv_of (i0 := 84) (i1 := 169) (i2 := 170) (i3 := 171) rfl rfl rfl rfl (by decide +kernel)
theorem kc_272 {k nL : Nat} {nm ds : String} {cc : ByteArray} {rt : Option FieldType} : ev_kV (mo_m k nm ds cc nL rt) m_readAll 272 4 := kv_of (i0 := 85) (i1 := 140) (i2 := 141) (i3 := 142) rfl rfl rfl rfl (by decide +kernel)
theorem kc_275 {k nL : Nat} {nm ds : String} {cc : ByteArray} {rt : Option FieldType} : ev_kV (mo_m k nm ds cc nL rt) m_writeItem 275 3 := kv_of (i0 := 86) (i1 := 172) (i2 := 173) (i3 := 174) rfl rfl rfl rfl (by decide +kernel)
theorem kc_284 {k nL : Nat} {nm ds : String} {cc : ByteArray} {rt : Option FieldType} : ev_kV (mo_m k nm ds cc nL rt) m_trapped 284 3 := kv_of (i0 := 87) (i1 := 164) (i2 := 165) (i3 := 166) rfl rfl rfl rfl (by decide +kernel)
theorem kc_287 {k nL : Nat} {nm ds : String} {cc : ByteArray} {rt : Option FieldType} : ev_kV (mo_m k nm ds cc nL rt) m_pass 287 5 := kv_of (i0 := 88) (i1 := 129) (i2 := 130) (i3 := 131) rfl rfl rfl rfl (by decide +kernel)
theorem kc_291 {k nL : Nat} {nm ds : String} {cc : ByteArray} {rt : Option FieldType} : ev_kV (mo_m k nm ds cc nL rt) m_inUse 291 1 := kv_of (i0 := 89) (i1 := 105) (i2 := 106) (i3 := 107) rfl rfl rfl rfl (by decide +kernel)
def mo_qi (am : Nat → Nat) (kI kZ : ClassId) (P : Int32 → (Nat → Int32) → (Nat → Nat → Int32) → Prop) : Option Value → va_W → Prop := fun r w => ∃ (x : Int32) (F : Nat → Int32) (B : Nat → Nat → Int32), r = some (.int x) ∧ w = mo_W mo_ci am kI kZ F B ∧ P x F B
def mo_qv (am : Nat → Nat) (kI kZ : ClassId) (P : (Nat → Int32) → (Nat → Nat → Int32) → Prop) : Option Value → va_W → Prop := fun r w => ∃ (F : Nat → Int32) (B : Nat → Nat → Int32), r = none ∧ w = mo_W mo_ci am kI kZ F B ∧ P F B
/-- a yes or no -/
def mo_bl (x : Int32) (P : Prop) : Prop := (x = 1 ∧ P) ∨ (x = 0 ∧ ¬ P)
theorem mo_b0 {x : Int32} {P : Prop} (h : mo_bl x P) (e : x = 0) : ¬ P := by
  rcases h with ⟨rfl, -⟩ | ⟨-, h⟩
  · exact absurd e (by decide)
  · exact h
theorem mo_b1 {x : Int32} {P : Prop} (h : mo_bl x P) (e : ¬ x = 0) : P := by
  rcases h with ⟨-, h⟩ | ⟨rfl, -⟩
  · exact h
  · exact absurd rfl e
theorem mo_bn {x : Int32} {P : Prop} (h : mo_bl x P) : narrow .boolean (.int x) = .int x := by
  rcases h with ⟨rfl, -⟩ | ⟨rfl, -⟩ <;> rfl
section MOc
variable {l : Launch} {D : va_G} {tl : List (ClassId × FieldType)} {Z : (Nat → Prop) → State → Heap → Prop} {kI kZ : ClassId} {am : Nat → Nat} {F : Nat → Int32} {B : Nat → Nat → Int32} {E : ev_T} {lv : List (Option Value)} {st : List Value} {k k' nL nL' idx : Nat} {nm ds nm' ds' : String} {cc cc' : ByteArray} {rt rt' : Option FieldType}
theorem mo_calli0 {P : Int32 → (Nat → Int32) → (Nat → Nat → Int32) → Prop} (pc : Nat) (d : decode cc pc = .ok (.invokevirtual idx, 3)) (hZ : ev_Zok Z) (hk : ev_kV (mo_m k nm ds cc nL rt) (mo_m k' nm' ds' cc' nL' rt') idx 0) (hM : MT (mo_π l D cl_A kI kZ tl Z) (mo_m k' nm' ds' cc' nL' rt') 0 0 [.ref (am 60)] (mo_W mo_ci am kI kZ F B) (mo_qi am kI kZ P))
    (kk : ∀ (x : Int32) (F1 : Nat → Int32) (B1 : Nat → Nat → Int32), P x F1 B1 → EV (mo_π l D cl_A kI kZ tl Z) (mo_m k nm ds cc nL rt) E 0 0 (pc + 3) lv (.int x :: st) (mo_W mo_ci am kI kZ F1 B1)) (hR : k' < k := by decide) (hn : nL' ≤ 21 := by decide) (hrm : (st.map fun v => v.category).sum ≤ 8 := by exact Nat.le_of_ble_eq_true rfl) : EV (mo_π l D cl_A kI kZ tl Z) (mo_m k nm ds cc nL rt) E 0 0 pc lv (.ref (am 60) :: st) (mo_W mo_ci am kI kZ F B) := by
  refine ev_callV (T := T_mo) (N := 60) pc 0 [] st d hZ hk (kr_of hR hn) rfl rfl hM ?_ rfl hrm
  rintro r w ⟨x, F1, B1, rfl, rfl, hP⟩
  exact kk x F1 B1 hP
theorem mo_callv0 {P : (Nat → Int32) → (Nat → Nat → Int32) → Prop} (pc : Nat) (d : decode cc pc = .ok (.invokevirtual idx, 3)) (hZ : ev_Zok Z) (hk : ev_kV (mo_m k nm ds cc nL rt) (mo_m k' nm' ds' cc' nL' rt') idx 0) (hM : MT (mo_π l D cl_A kI kZ tl Z) (mo_m k' nm' ds' cc' nL' rt') 0 0 [.ref (am 60)] (mo_W mo_ci am kI kZ F B) (mo_qv am kI kZ P))
    (kk : ∀ (F1 : Nat → Int32) (B1 : Nat → Nat → Int32), P F1 B1 → EV (mo_π l D cl_A kI kZ tl Z) (mo_m k nm ds cc nL rt) E 0 0 (pc + 3) lv st (mo_W mo_ci am kI kZ F1 B1)) (hR : k' < k := by decide) (hn : nL' ≤ 21 := by decide) (hrm : (st.map fun v => v.category).sum ≤ 8 := by exact Nat.le_of_ble_eq_true rfl) : EV (mo_π l D cl_A kI kZ tl Z) (mo_m k nm ds cc nL rt) E 0 0 pc lv (.ref (am 60) :: st) (mo_W mo_ci am kI kZ F B) := by
  refine ev_callV (T := T_mo) (N := 60) pc 0 [] st d hZ hk (kr_of hR hn) rfl rfl hM ?_ rfl hrm
  rintro r w ⟨F1, B1, rfl, rfl, hP⟩
  exact kk F1 B1 hP
theorem mo_calli1 {x1 : Int32} {P : Int32 → (Nat → Int32) → (Nat → Nat → Int32) → Prop} (pc : Nat) (d : decode cc pc = .ok (.invokevirtual idx, 3)) (hZ : ev_Zok Z) (hk : ev_kV (mo_m k nm ds cc nL rt) (mo_m k' nm' ds' cc' nL' rt') idx 1) (hM : MT (mo_π l D cl_A kI kZ tl Z) (mo_m k' nm' ds' cc' nL' rt') 0 0 [.ref (am 60), .int x1] (mo_W mo_ci am kI kZ F B) (mo_qi am kI kZ P))
    (kk : ∀ (x : Int32) (F1 : Nat → Int32) (B1 : Nat → Nat → Int32), P x F1 B1 → EV (mo_π l D cl_A kI kZ tl Z) (mo_m k nm ds cc nL rt) E 0 0 (pc + 3) lv (.int x :: st) (mo_W mo_ci am kI kZ F1 B1)) (hR : k' < k := by decide) (hn : nL' ≤ 21 := by decide) (hrm : (st.map fun v => v.category).sum ≤ 8 := by exact Nat.le_of_ble_eq_true rfl) : EV (mo_π l D cl_A kI kZ tl Z) (mo_m k nm ds cc nL rt) E 0 0 pc lv (.int x1 :: .ref (am 60) :: st) (mo_W mo_ci am kI kZ F B) := by
  refine ev_callV (T := T_mo) (N := 60) pc 0 [.int x1] st d hZ hk (kr_of hR hn) rfl rfl hM ?_ rfl hrm
  rintro r w ⟨x, F1, B1, rfl, rfl, hP⟩
  exact kk x F1 B1 hP
theorem mo_callv1 {x1 : Int32} {P : (Nat → Int32) → (Nat → Nat → Int32) → Prop} (pc : Nat) (d : decode cc pc = .ok (.invokevirtual idx, 3)) (hZ : ev_Zok Z) (hk : ev_kV (mo_m k nm ds cc nL rt) (mo_m k' nm' ds' cc' nL' rt') idx 1) (hM : MT (mo_π l D cl_A kI kZ tl Z) (mo_m k' nm' ds' cc' nL' rt') 0 0 [.ref (am 60), .int x1] (mo_W mo_ci am kI kZ F B) (mo_qv am kI kZ P))
    (kk : ∀ (F1 : Nat → Int32) (B1 : Nat → Nat → Int32), P F1 B1 → EV (mo_π l D cl_A kI kZ tl Z) (mo_m k nm ds cc nL rt) E 0 0 (pc + 3) lv st (mo_W mo_ci am kI kZ F1 B1)) (hR : k' < k := by decide) (hn : nL' ≤ 21 := by decide) (hrm : (st.map fun v => v.category).sum ≤ 8 := by exact Nat.le_of_ble_eq_true rfl) : EV (mo_π l D cl_A kI kZ tl Z) (mo_m k nm ds cc nL rt) E 0 0 pc lv (.int x1 :: .ref (am 60) :: st) (mo_W mo_ci am kI kZ F B) := by
  refine ev_callV (T := T_mo) (N := 60) pc 0 [.int x1] st d hZ hk (kr_of hR hn) rfl rfl hM ?_ rfl hrm
  rintro r w ⟨F1, B1, rfl, rfl, hP⟩
  exact kk F1 B1 hP
theorem mo_scalli1 {x1 : Int32} {P : Int32 → (Nat → Int32) → (Nat → Nat → Int32) → Prop} (pc : Nat) (d : decode cc pc = .ok (.invokestatic idx, 3)) (hZ : ev_Zok Z) (hk : ev_kS (mo_m k nm ds cc nL rt) (mo_m k' nm' ds' cc' nL' rt') idx 1) (hM : MT (mo_π l D cl_A kI kZ tl Z) (mo_m k' nm' ds' cc' nL' rt') 0 0 [.int x1] (mo_W mo_ci am kI kZ F B) (mo_qi am kI kZ P))
    (kk : ∀ (x : Int32) (F1 : Nat → Int32) (B1 : Nat → Nat → Int32), P x F1 B1 → EV (mo_π l D cl_A kI kZ tl Z) (mo_m k nm ds cc nL rt) E 0 0 (pc + 3) lv (.int x :: st) (mo_W mo_ci am kI kZ F1 B1)) (hR : k' < k := by decide) (hn : nL' ≤ 21 := by decide) (hrm : (st.map fun v => v.category).sum ≤ 8 := by exact Nat.le_of_ble_eq_true rfl) : EV (mo_π l D cl_A kI kZ tl Z) (mo_m k nm ds cc nL rt) E 0 0 pc lv (.int x1 :: st) (mo_W mo_ci am kI kZ F B) := by
  refine ev_callS pc [.int x1] st d hZ hk (kr_of hR hn) hM ?_ rfl hrm
  rintro r w ⟨x, F1, B1, rfl, rfl, hP⟩
  exact kk x F1 B1 hP
theorem mo_calli2 {x1 x2 : Int32} {P : Int32 → (Nat → Int32) → (Nat → Nat → Int32) → Prop} (pc : Nat) (d : decode cc pc = .ok (.invokevirtual idx, 3)) (hZ : ev_Zok Z) (hk : ev_kV (mo_m k nm ds cc nL rt) (mo_m k' nm' ds' cc' nL' rt') idx 2) (hM : MT (mo_π l D cl_A kI kZ tl Z) (mo_m k' nm' ds' cc' nL' rt') 0 0 [.ref (am 60), .int x1, .int x2] (mo_W mo_ci am kI kZ F B) (mo_qi am kI kZ P))
    (kk : ∀ (x : Int32) (F1 : Nat → Int32) (B1 : Nat → Nat → Int32), P x F1 B1 → EV (mo_π l D cl_A kI kZ tl Z) (mo_m k nm ds cc nL rt) E 0 0 (pc + 3) lv (.int x :: st) (mo_W mo_ci am kI kZ F1 B1)) (hR : k' < k := by decide) (hn : nL' ≤ 21 := by decide) (hrm : (st.map fun v => v.category).sum ≤ 8 := by exact Nat.le_of_ble_eq_true rfl) : EV (mo_π l D cl_A kI kZ tl Z) (mo_m k nm ds cc nL rt) E 0 0 pc lv (.int x2 :: .int x1 :: .ref (am 60) :: st) (mo_W mo_ci am kI kZ F B) := by
  refine ev_callV (T := T_mo) (N := 60) pc 0 [.int x1, .int x2] st d hZ hk (kr_of hR hn) rfl rfl hM ?_ rfl hrm
  rintro r w ⟨x, F1, B1, rfl, rfl, hP⟩
  exact kk x F1 B1 hP
theorem mo_callv2 {x1 x2 : Int32} {P : (Nat → Int32) → (Nat → Nat → Int32) → Prop} (pc : Nat) (d : decode cc pc = .ok (.invokevirtual idx, 3)) (hZ : ev_Zok Z) (hk : ev_kV (mo_m k nm ds cc nL rt) (mo_m k' nm' ds' cc' nL' rt') idx 2) (hM : MT (mo_π l D cl_A kI kZ tl Z) (mo_m k' nm' ds' cc' nL' rt') 0 0 [.ref (am 60), .int x1, .int x2] (mo_W mo_ci am kI kZ F B) (mo_qv am kI kZ P))
    (kk : ∀ (F1 : Nat → Int32) (B1 : Nat → Nat → Int32), P F1 B1 → EV (mo_π l D cl_A kI kZ tl Z) (mo_m k nm ds cc nL rt) E 0 0 (pc + 3) lv st (mo_W mo_ci am kI kZ F1 B1)) (hR : k' < k := by decide) (hn : nL' ≤ 21 := by decide) (hrm : (st.map fun v => v.category).sum ≤ 8 := by exact Nat.le_of_ble_eq_true rfl) : EV (mo_π l D cl_A kI kZ tl Z) (mo_m k nm ds cc nL rt) E 0 0 pc lv (.int x2 :: .int x1 :: .ref (am 60) :: st) (mo_W mo_ci am kI kZ F B) := by
  refine ev_callV (T := T_mo) (N := 60) pc 0 [.int x1, .int x2] st d hZ hk (kr_of hR hn) rfl rfl hM ?_ rfl hrm
  rintro r w ⟨F1, B1, rfl, rfl, hP⟩
  exact kk F1 B1 hP
theorem mo_scalli2 {x1 x2 : Int32} {P : Int32 → (Nat → Int32) → (Nat → Nat → Int32) → Prop} (pc : Nat) (d : decode cc pc = .ok (.invokestatic idx, 3)) (hZ : ev_Zok Z) (hk : ev_kS (mo_m k nm ds cc nL rt) (mo_m k' nm' ds' cc' nL' rt') idx 2) (hM : MT (mo_π l D cl_A kI kZ tl Z) (mo_m k' nm' ds' cc' nL' rt') 0 0 [.int x1, .int x2] (mo_W mo_ci am kI kZ F B) (mo_qi am kI kZ P))
    (kk : ∀ (x : Int32) (F1 : Nat → Int32) (B1 : Nat → Nat → Int32), P x F1 B1 → EV (mo_π l D cl_A kI kZ tl Z) (mo_m k nm ds cc nL rt) E 0 0 (pc + 3) lv (.int x :: st) (mo_W mo_ci am kI kZ F1 B1)) (hR : k' < k := by decide) (hn : nL' ≤ 21 := by decide) (hrm : (st.map fun v => v.category).sum ≤ 8 := by exact Nat.le_of_ble_eq_true rfl) : EV (mo_π l D cl_A kI kZ tl Z) (mo_m k nm ds cc nL rt) E 0 0 pc lv (.int x2 :: .int x1 :: st) (mo_W mo_ci am kI kZ F B) := by
  refine ev_callS pc [.int x1, .int x2] st d hZ hk (kr_of hR hn) hM ?_ rfl hrm
  rintro r w ⟨x, F1, B1, rfl, rfl, hP⟩
  exact kk x F1 B1 hP
theorem mo_calli3 {x1 x2 x3 : Int32} {P : Int32 → (Nat → Int32) → (Nat → Nat → Int32) → Prop} (pc : Nat) (d : decode cc pc = .ok (.invokevirtual idx, 3)) (hZ : ev_Zok Z) (hk : ev_kV (mo_m k nm ds cc nL rt) (mo_m k' nm' ds' cc' nL' rt') idx 3) (hM : MT (mo_π l D cl_A kI kZ tl Z) (mo_m k' nm' ds' cc' nL' rt') 0 0 [.ref (am 60), .int x1, .int x2, .int x3] (mo_W mo_ci am kI kZ F B) (mo_qi am kI kZ P))
    (kk : ∀ (x : Int32) (F1 : Nat → Int32) (B1 : Nat → Nat → Int32), P x F1 B1 → EV (mo_π l D cl_A kI kZ tl Z) (mo_m k nm ds cc nL rt) E 0 0 (pc + 3) lv (.int x :: st) (mo_W mo_ci am kI kZ F1 B1)) (hR : k' < k := by decide) (hn : nL' ≤ 21 := by decide) (hrm : (st.map fun v => v.category).sum ≤ 8 := by exact Nat.le_of_ble_eq_true rfl) : EV (mo_π l D cl_A kI kZ tl Z) (mo_m k nm ds cc nL rt) E 0 0 pc lv (.int x3 :: .int x2 :: .int x1 :: .ref (am 60) :: st) (mo_W mo_ci am kI kZ F B) := by
  refine ev_callV (T := T_mo) (N := 60) pc 0 [.int x1, .int x2, .int x3] st d hZ hk (kr_of hR hn) rfl rfl hM ?_ rfl hrm
  rintro r w ⟨x, F1, B1, rfl, rfl, hP⟩
  exact kk x F1 B1 hP
theorem mo_callv3 {x1 x2 x3 : Int32} {P : (Nat → Int32) → (Nat → Nat → Int32) → Prop} (pc : Nat) (d : decode cc pc = .ok (.invokevirtual idx, 3)) (hZ : ev_Zok Z) (hk : ev_kV (mo_m k nm ds cc nL rt) (mo_m k' nm' ds' cc' nL' rt') idx 3) (hM : MT (mo_π l D cl_A kI kZ tl Z) (mo_m k' nm' ds' cc' nL' rt') 0 0 [.ref (am 60), .int x1, .int x2, .int x3] (mo_W mo_ci am kI kZ F B) (mo_qv am kI kZ P))
    (kk : ∀ (F1 : Nat → Int32) (B1 : Nat → Nat → Int32), P F1 B1 → EV (mo_π l D cl_A kI kZ tl Z) (mo_m k nm ds cc nL rt) E 0 0 (pc + 3) lv st (mo_W mo_ci am kI kZ F1 B1)) (hR : k' < k := by decide) (hn : nL' ≤ 21 := by decide) (hrm : (st.map fun v => v.category).sum ≤ 8 := by exact Nat.le_of_ble_eq_true rfl) : EV (mo_π l D cl_A kI kZ tl Z) (mo_m k nm ds cc nL rt) E 0 0 pc lv (.int x3 :: .int x2 :: .int x1 :: .ref (am 60) :: st) (mo_W mo_ci am kI kZ F B) := by
  refine ev_callV (T := T_mo) (N := 60) pc 0 [.int x1, .int x2, .int x3] st d hZ hk (kr_of hR hn) rfl rfl hM ?_ rfl hrm
  rintro r w ⟨F1, B1, rfl, rfl, hP⟩
  exact kk F1 B1 hP
theorem mo_calli4 {x1 x2 x3 x4 : Int32} {P : Int32 → (Nat → Int32) → (Nat → Nat → Int32) → Prop} (pc : Nat) (d : decode cc pc = .ok (.invokevirtual idx, 3)) (hZ : ev_Zok Z) (hk : ev_kV (mo_m k nm ds cc nL rt) (mo_m k' nm' ds' cc' nL' rt') idx 4) (hM : MT (mo_π l D cl_A kI kZ tl Z) (mo_m k' nm' ds' cc' nL' rt') 0 0 [.ref (am 60), .int x1, .int x2, .int x3, .int x4] (mo_W mo_ci am kI kZ F B) (mo_qi am kI kZ P))
    (kk : ∀ (x : Int32) (F1 : Nat → Int32) (B1 : Nat → Nat → Int32), P x F1 B1 → EV (mo_π l D cl_A kI kZ tl Z) (mo_m k nm ds cc nL rt) E 0 0 (pc + 3) lv (.int x :: st) (mo_W mo_ci am kI kZ F1 B1)) (hR : k' < k := by decide) (hn : nL' ≤ 21 := by decide) (hrm : (st.map fun v => v.category).sum ≤ 8 := by exact Nat.le_of_ble_eq_true rfl) : EV (mo_π l D cl_A kI kZ tl Z) (mo_m k nm ds cc nL rt) E 0 0 pc lv (.int x4 :: .int x3 :: .int x2 :: .int x1 :: .ref (am 60) :: st) (mo_W mo_ci am kI kZ F B) := by
  refine ev_callV (T := T_mo) (N := 60) pc 0 [.int x1, .int x2, .int x3, .int x4] st d hZ hk (kr_of hR hn) rfl rfl hM ?_ rfl hrm
  rintro r w ⟨x, F1, B1, rfl, rfl, hP⟩
  exact kk x F1 B1 hP
theorem mo_callv4 {x1 x2 x3 x4 : Int32} {P : (Nat → Int32) → (Nat → Nat → Int32) → Prop} (pc : Nat) (d : decode cc pc = .ok (.invokevirtual idx, 3)) (hZ : ev_Zok Z) (hk : ev_kV (mo_m k nm ds cc nL rt) (mo_m k' nm' ds' cc' nL' rt') idx 4) (hM : MT (mo_π l D cl_A kI kZ tl Z) (mo_m k' nm' ds' cc' nL' rt') 0 0 [.ref (am 60), .int x1, .int x2, .int x3, .int x4] (mo_W mo_ci am kI kZ F B) (mo_qv am kI kZ P))
    (kk : ∀ (F1 : Nat → Int32) (B1 : Nat → Nat → Int32), P F1 B1 → EV (mo_π l D cl_A kI kZ tl Z) (mo_m k nm ds cc nL rt) E 0 0 (pc + 3) lv st (mo_W mo_ci am kI kZ F1 B1)) (hR : k' < k := by decide) (hn : nL' ≤ 21 := by decide) (hrm : (st.map fun v => v.category).sum ≤ 8 := by exact Nat.le_of_ble_eq_true rfl) : EV (mo_π l D cl_A kI kZ tl Z) (mo_m k nm ds cc nL rt) E 0 0 pc lv (.int x4 :: .int x3 :: .int x2 :: .int x1 :: .ref (am 60) :: st) (mo_W mo_ci am kI kZ F B) := by
  refine ev_callV (T := T_mo) (N := 60) pc 0 [.int x1, .int x2, .int x3, .int x4] st d hZ hk (kr_of hR hn) rfl rfl hM ?_ rfl hrm
  rintro r w ⟨F1, B1, rfl, rfl, hP⟩
  exact kk F1 B1 hP
theorem mo_calli5 {x1 x2 x3 x4 x5 : Int32} {P : Int32 → (Nat → Int32) → (Nat → Nat → Int32) → Prop} (pc : Nat) (d : decode cc pc = .ok (.invokevirtual idx, 3)) (hZ : ev_Zok Z) (hk : ev_kV (mo_m k nm ds cc nL rt) (mo_m k' nm' ds' cc' nL' rt') idx 5) (hM : MT (mo_π l D cl_A kI kZ tl Z) (mo_m k' nm' ds' cc' nL' rt') 0 0 [.ref (am 60), .int x1, .int x2, .int x3, .int x4, .int x5] (mo_W mo_ci am kI kZ F B) (mo_qi am kI kZ P))
    (kk : ∀ (x : Int32) (F1 : Nat → Int32) (B1 : Nat → Nat → Int32), P x F1 B1 → EV (mo_π l D cl_A kI kZ tl Z) (mo_m k nm ds cc nL rt) E 0 0 (pc + 3) lv (.int x :: st) (mo_W mo_ci am kI kZ F1 B1)) (hR : k' < k := by decide) (hn : nL' ≤ 21 := by decide) (hrm : (st.map fun v => v.category).sum ≤ 8 := by exact Nat.le_of_ble_eq_true rfl) : EV (mo_π l D cl_A kI kZ tl Z) (mo_m k nm ds cc nL rt) E 0 0 pc lv (.int x5 :: .int x4 :: .int x3 :: .int x2 :: .int x1 :: .ref (am 60) :: st) (mo_W mo_ci am kI kZ F B) := by
  refine ev_callV (T := T_mo) (N := 60) pc 0 [.int x1, .int x2, .int x3, .int x4, .int x5] st d hZ hk (kr_of hR hn) rfl rfl hM ?_ rfl hrm
  rintro r w ⟨x, F1, B1, rfl, rfl, hP⟩
  exact kk x F1 B1 hP
theorem mo_callv5 {x1 x2 x3 x4 x5 : Int32} {P : (Nat → Int32) → (Nat → Nat → Int32) → Prop} (pc : Nat) (d : decode cc pc = .ok (.invokevirtual idx, 3)) (hZ : ev_Zok Z) (hk : ev_kV (mo_m k nm ds cc nL rt) (mo_m k' nm' ds' cc' nL' rt') idx 5) (hM : MT (mo_π l D cl_A kI kZ tl Z) (mo_m k' nm' ds' cc' nL' rt') 0 0 [.ref (am 60), .int x1, .int x2, .int x3, .int x4, .int x5] (mo_W mo_ci am kI kZ F B) (mo_qv am kI kZ P))
    (kk : ∀ (F1 : Nat → Int32) (B1 : Nat → Nat → Int32), P F1 B1 → EV (mo_π l D cl_A kI kZ tl Z) (mo_m k nm ds cc nL rt) E 0 0 (pc + 3) lv st (mo_W mo_ci am kI kZ F1 B1)) (hR : k' < k := by decide) (hn : nL' ≤ 21 := by decide) (hrm : (st.map fun v => v.category).sum ≤ 8 := by exact Nat.le_of_ble_eq_true rfl) : EV (mo_π l D cl_A kI kZ tl Z) (mo_m k nm ds cc nL rt) E 0 0 pc lv (.int x5 :: .int x4 :: .int x3 :: .int x2 :: .int x1 :: .ref (am 60) :: st) (mo_W mo_ci am kI kZ F B) := by
  refine ev_callV (T := T_mo) (N := 60) pc 0 [.int x1, .int x2, .int x3, .int x4, .int x5] st d hZ hk (kr_of hR hn) rfl rfl hM ?_ rfl hrm
  rintro r w ⟨F1, B1, rfl, rfl, hP⟩
  exact kk F1 B1 hP
theorem mo_calli6 {x1 x2 x3 x4 x5 x6 : Int32} {P : Int32 → (Nat → Int32) → (Nat → Nat → Int32) → Prop} (pc : Nat) (d : decode cc pc = .ok (.invokevirtual idx, 3)) (hZ : ev_Zok Z) (hk : ev_kV (mo_m k nm ds cc nL rt) (mo_m k' nm' ds' cc' nL' rt') idx 6) (hM : MT (mo_π l D cl_A kI kZ tl Z) (mo_m k' nm' ds' cc' nL' rt') 0 0 [.ref (am 60), .int x1, .int x2, .int x3, .int x4, .int x5, .int x6] (mo_W mo_ci am kI kZ F B) (mo_qi am kI kZ P))
    (kk : ∀ (x : Int32) (F1 : Nat → Int32) (B1 : Nat → Nat → Int32), P x F1 B1 → EV (mo_π l D cl_A kI kZ tl Z) (mo_m k nm ds cc nL rt) E 0 0 (pc + 3) lv (.int x :: st) (mo_W mo_ci am kI kZ F1 B1)) (hR : k' < k := by decide) (hn : nL' ≤ 21 := by decide) (hrm : (st.map fun v => v.category).sum ≤ 8 := by exact Nat.le_of_ble_eq_true rfl) : EV (mo_π l D cl_A kI kZ tl Z) (mo_m k nm ds cc nL rt) E 0 0 pc lv (.int x6 :: .int x5 :: .int x4 :: .int x3 :: .int x2 :: .int x1 :: .ref (am 60) :: st) (mo_W mo_ci am kI kZ F B) := by
  refine ev_callV (T := T_mo) (N := 60) pc 0 [.int x1, .int x2, .int x3, .int x4, .int x5, .int x6] st d hZ hk (kr_of hR hn) rfl rfl hM ?_ rfl hrm
  rintro r w ⟨x, F1, B1, rfl, rfl, hP⟩
  exact kk x F1 B1 hP
theorem mo_callv6 {x1 x2 x3 x4 x5 x6 : Int32} {P : (Nat → Int32) → (Nat → Nat → Int32) → Prop} (pc : Nat) (d : decode cc pc = .ok (.invokevirtual idx, 3)) (hZ : ev_Zok Z) (hk : ev_kV (mo_m k nm ds cc nL rt) (mo_m k' nm' ds' cc' nL' rt') idx 6) (hM : MT (mo_π l D cl_A kI kZ tl Z) (mo_m k' nm' ds' cc' nL' rt') 0 0 [.ref (am 60), .int x1, .int x2, .int x3, .int x4, .int x5, .int x6] (mo_W mo_ci am kI kZ F B) (mo_qv am kI kZ P))
    (kk : ∀ (F1 : Nat → Int32) (B1 : Nat → Nat → Int32), P F1 B1 → EV (mo_π l D cl_A kI kZ tl Z) (mo_m k nm ds cc nL rt) E 0 0 (pc + 3) lv st (mo_W mo_ci am kI kZ F1 B1)) (hR : k' < k := by decide) (hn : nL' ≤ 21 := by decide) (hrm : (st.map fun v => v.category).sum ≤ 8 := by exact Nat.le_of_ble_eq_true rfl) : EV (mo_π l D cl_A kI kZ tl Z) (mo_m k nm ds cc nL rt) E 0 0 pc lv (.int x6 :: .int x5 :: .int x4 :: .int x3 :: .int x2 :: .int x1 :: .ref (am 60) :: st) (mo_W mo_ci am kI kZ F B) := by
  refine ev_callV (T := T_mo) (N := 60) pc 0 [.int x1, .int x2, .int x3, .int x4, .int x5, .int x6] st d hZ hk (kr_of hR hn) rfl rfl hM ?_ rfl hrm
  rintro r w ⟨F1, B1, rfl, rfl, hP⟩
  exact kk F1 B1 hP
end MOc
end
section
theorem d_mo_thrown_0 : decode c_mo_thrown 0 = .ok (.aload_n 0, 1) := by decide +kernel
theorem d_mo_thrown_1 : decode c_mo_thrown 1 = .ok (.getfield 141, 3) := by decide +kernel
theorem d_mo_thrown_4 : decode c_mo_thrown 4 = .ok (.ireturn, 1) := by decide +kernel
theorem d_mo_refuses_0 : decode c_mo_refuses 0 = .ok (.aload_n 0, 1) := by decide +kernel
theorem d_mo_refuses_1 : decode c_mo_refuses 1 = .ok (.iload_n 1, 1) := by decide +kernel
theorem d_mo_refuses_2 : decode c_mo_refuses 2 = .ok (.putfield 141, 3) := by decide +kernel
theorem d_mo_refuses_5 : decode c_mo_refuses 5 = .ok (.iload_n 1, 1) := by decide +kernel
theorem d_mo_refuses_6 : decode c_mo_refuses 6 = .ok (.ifCond .le 7, 3) := by decide +kernel
theorem d_mo_refuses_9 : decode c_mo_refuses 9 = .ok (.iconst 1, 1) := by decide +kernel
theorem d_mo_refuses_10 : decode c_mo_refuses 10 = .ok (.goto 4, 3) := by decide +kernel
theorem d_mo_refuses_13 : decode c_mo_refuses 13 = .ok (.iconst 0, 1) := by decide +kernel
theorem d_mo_refuses_14 : decode c_mo_refuses 14 = .ok (.ireturn, 1) := by decide +kernel
theorem d_mo_isType_0 : decode c_mo_isType 0 = .ok (.iload_n 1, 1) := by decide +kernel
theorem d_mo_isType_1 : decode c_mo_isType 1 = .ok (.ifCond .lt 15, 3) := by decide +kernel
theorem d_mo_isType_4 : decode c_mo_isType 4 = .ok (.iload_n 1, 1) := by decide +kernel
theorem d_mo_isType_5 : decode c_mo_isType 5 = .ok (.aload_n 0, 1) := by decide +kernel
theorem d_mo_isType_6 : decode c_mo_isType 6 = .ok (.getfield 144, 3) := by decide +kernel
theorem d_mo_isType_9 : decode c_mo_isType 9 = .ok (.if_icmp .ge 7, 3) := by decide +kernel
theorem d_mo_isType_12 : decode c_mo_isType 12 = .ok (.iconst 1, 1) := by decide +kernel
theorem d_mo_isType_13 : decode c_mo_isType 13 = .ok (.goto 4, 3) := by decide +kernel
theorem d_mo_isType_16 : decode c_mo_isType 16 = .ok (.iconst 0, 1) := by decide +kernel
theorem d_mo_isType_17 : decode c_mo_isType 17 = .ok (.ireturn, 1) := by decide +kernel
theorem d_mo_isInstance_0 : decode c_mo_isInstance 0 = .ok (.iload_n 1, 1) := by decide +kernel
theorem d_mo_isInstance_1 : decode c_mo_isInstance 1 = .ok (.ifCond .lt 15, 3) := by decide +kernel
theorem d_mo_isInstance_4 : decode c_mo_isInstance 4 = .ok (.iload_n 1, 1) := by decide +kernel
theorem d_mo_isInstance_5 : decode c_mo_isInstance 5 = .ok (.aload_n 0, 1) := by decide +kernel
theorem d_mo_isInstance_6 : decode c_mo_isInstance 6 = .ok (.getfield 147, 3) := by decide +kernel
theorem d_mo_isInstance_9 : decode c_mo_isInstance 9 = .ok (.if_icmp .ge 7, 3) := by decide +kernel
theorem d_mo_isInstance_12 : decode c_mo_isInstance 12 = .ok (.iconst 1, 1) := by decide +kernel
theorem d_mo_isInstance_13 : decode c_mo_isInstance 13 = .ok (.goto 4, 3) := by decide +kernel
theorem d_mo_isInstance_16 : decode c_mo_isInstance 16 = .ok (.iconst 0, 1) := by decide +kernel
theorem d_mo_isInstance_17 : decode c_mo_isInstance 17 = .ok (.ireturn, 1) := by decide +kernel
theorem d_mo_upTo_0 : decode c_mo_upTo 0 = .ok (.iload_n 0, 1) := by decide +kernel
theorem d_mo_upTo_1 : decode c_mo_upTo 1 = .ok (.iload_n 1, 1) := by decide +kernel
theorem d_mo_upTo_2 : decode c_mo_upTo 2 = .ok (.iadd, 1) := by decide +kernel
theorem d_mo_upTo_3 : decode c_mo_upTo 3 = .ok (.iconst 1, 1) := by decide +kernel
theorem d_mo_upTo_4 : decode c_mo_upTo 4 = .ok (.isub, 1) := by decide +kernel
theorem d_mo_upTo_5 : decode c_mo_upTo 5 = .ok (.iload_n 1, 1) := by decide +kernel
theorem d_mo_upTo_6 : decode c_mo_upTo 6 = .ok (.idiv, 1) := by decide +kernel
theorem d_mo_upTo_7 : decode c_mo_upTo 7 = .ok (.iload_n 1, 1) := by decide +kernel
theorem d_mo_upTo_8 : decode c_mo_upTo 8 = .ok (.imul, 1) := by decide +kernel
theorem d_mo_upTo_9 : decode c_mo_upTo 9 = .ok (.ireturn, 1) := by decide +kernel
theorem d_mo_plainSize_0 : decode c_mo_plainSize 0 = .ok (.iload_n 0, 1) := by decide +kernel
theorem d_mo_plainSize_1 : decode c_mo_plainSize 1 = .ok (.iconst 2, 1) := by decide +kernel
theorem d_mo_plainSize_2 : decode c_mo_plainSize 2 = .ok (.if_icmp .ne 7, 3) := by decide +kernel
theorem d_mo_plainSize_5 : decode c_mo_plainSize 5 = .ok (.iconst 2, 1) := by decide +kernel
theorem d_mo_plainSize_6 : decode c_mo_plainSize 6 = .ok (.goto 40, 3) := by decide +kernel
theorem d_mo_plainSize_9 : decode c_mo_plainSize 9 = .ok (.iload_n 0, 1) := by decide +kernel
theorem d_mo_plainSize_10 : decode c_mo_plainSize 10 = .ok (.iconst 3, 1) := by decide +kernel
theorem d_mo_plainSize_11 : decode c_mo_plainSize 11 = .ok (.if_icmp .eq 20, 3) := by decide +kernel
theorem d_mo_plainSize_14 : decode c_mo_plainSize 14 = .ok (.iload_n 0, 1) := by decide +kernel
theorem d_mo_plainSize_15 : decode c_mo_plainSize 15 = .ok (.iconst 5, 1) := by decide +kernel
theorem d_mo_plainSize_16 : decode c_mo_plainSize 16 = .ok (.if_icmp .eq 15, 3) := by decide +kernel
theorem d_mo_plainSize_19 : decode c_mo_plainSize 19 = .ok (.iload_n 0, 1) := by decide +kernel
theorem d_mo_plainSize_20 : decode c_mo_plainSize 20 = .ok (.bipush 6, 2) := by decide +kernel
theorem d_mo_plainSize_22 : decode c_mo_plainSize 22 = .ok (.if_icmp .eq 9, 3) := by decide +kernel
theorem d_mo_plainSize_25 : decode c_mo_plainSize 25 = .ok (.iload_n 0, 1) := by decide +kernel
theorem d_mo_plainSize_26 : decode c_mo_plainSize 26 = .ok (.bipush 8, 2) := by decide +kernel
theorem d_mo_plainSize_28 : decode c_mo_plainSize 28 = .ok (.if_icmp .ne 7, 3) := by decide +kernel
theorem d_mo_plainSize_31 : decode c_mo_plainSize 31 = .ok (.iconst 4, 1) := by decide +kernel
theorem d_mo_plainSize_32 : decode c_mo_plainSize 32 = .ok (.goto 14, 3) := by decide +kernel
theorem d_mo_plainSize_35 : decode c_mo_plainSize 35 = .ok (.iload_n 0, 1) := by decide +kernel
theorem d_mo_plainSize_36 : decode c_mo_plainSize 36 = .ok (.iconst 4, 1) := by decide +kernel
theorem d_mo_plainSize_37 : decode c_mo_plainSize 37 = .ok (.if_icmp .ne 8, 3) := by decide +kernel
theorem d_mo_plainSize_40 : decode c_mo_plainSize 40 = .ok (.bipush 8, 2) := by decide +kernel
theorem d_mo_plainSize_42 : decode c_mo_plainSize 42 = .ok (.goto 4, 3) := by decide +kernel
theorem d_mo_plainSize_45 : decode c_mo_plainSize 45 = .ok (.iconst 1, 1) := by decide +kernel
theorem d_mo_plainSize_46 : decode c_mo_plainSize 46 = .ok (.ireturn, 1) := by decide +kernel
theorem d_mo_shared_0 : decode c_mo_shared 0 = .ok (.aload_n 0, 1) := by decide +kernel
theorem d_mo_shared_1 : decode c_mo_shared 1 = .ok (.getfield 25, 3) := by decide +kernel
theorem d_mo_shared_4 : decode c_mo_shared 4 = .ok (.iload_n 1, 1) := by decide +kernel
theorem d_mo_shared_5 : decode c_mo_shared 5 = .ok (.iaload, 1) := by decide +kernel
theorem d_mo_shared_6 : decode c_mo_shared 6 = .ok (.aload_n 0, 1) := by decide +kernel
theorem d_mo_shared_7 : decode c_mo_shared 7 = .ok (.getfield 25, 3) := by decide +kernel
theorem d_mo_shared_10 : decode c_mo_shared 10 = .ok (.iload_n 2, 1) := by decide +kernel
theorem d_mo_shared_11 : decode c_mo_shared 11 = .ok (.iaload, 1) := by decide +kernel
theorem d_mo_shared_12 : decode c_mo_shared 12 = .ok (.if_icmp .ge 12, 3) := by decide +kernel
theorem d_mo_shared_15 : decode c_mo_shared 15 = .ok (.aload_n 0, 1) := by decide +kernel
theorem d_mo_shared_16 : decode c_mo_shared 16 = .ok (.getfield 25, 3) := by decide +kernel
theorem d_mo_shared_19 : decode c_mo_shared 19 = .ok (.iload_n 1, 1) := by decide +kernel
theorem d_mo_shared_20 : decode c_mo_shared 20 = .ok (.iaload, 1) := by decide +kernel
theorem d_mo_shared_21 : decode c_mo_shared 21 = .ok (.goto 9, 3) := by decide +kernel
theorem d_mo_shared_24 : decode c_mo_shared 24 = .ok (.aload_n 0, 1) := by decide +kernel
theorem d_mo_shared_25 : decode c_mo_shared 25 = .ok (.getfield 25, 3) := by decide +kernel
theorem d_mo_shared_28 : decode c_mo_shared 28 = .ok (.iload_n 2, 1) := by decide +kernel
theorem d_mo_shared_29 : decode c_mo_shared 29 = .ok (.iaload, 1) := by decide +kernel
theorem d_mo_shared_30 : decode c_mo_shared 30 = .ok (.ireturn, 1) := by decide +kernel
theorem d_mo_alike_0 : decode c_mo_alike 0 = .ok (.aload_n 0, 1) := by decide +kernel
theorem d_mo_alike_1 : decode c_mo_alike 1 = .ok (.getfield 7, 3) := by decide +kernel
theorem d_mo_alike_4 : decode c_mo_alike 4 = .ok (.iload_n 1, 1) := by decide +kernel
theorem d_mo_alike_5 : decode c_mo_alike 5 = .ok (.iaload, 1) := by decide +kernel
theorem d_mo_alike_6 : decode c_mo_alike 6 = .ok (.istore_n 3, 1) := by decide +kernel
theorem d_mo_alike_7 : decode c_mo_alike 7 = .ok (.iload_n 3, 1) := by decide +kernel
theorem d_mo_alike_8 : decode c_mo_alike 8 = .ok (.aload_n 0, 1) := by decide +kernel
theorem d_mo_alike_9 : decode c_mo_alike 9 = .ok (.getfield 7, 3) := by decide +kernel
theorem d_mo_alike_12 : decode c_mo_alike 12 = .ok (.iload_n 2, 1) := by decide +kernel
theorem d_mo_alike_13 : decode c_mo_alike 13 = .ok (.iaload, 1) := by decide +kernel
theorem d_mo_alike_14 : decode c_mo_alike 14 = .ok (.if_icmp .ne 91, 3) := by decide +kernel
theorem d_mo_alike_17 : decode c_mo_alike 17 = .ok (.iload_n 3, 1) := by decide +kernel
theorem d_mo_alike_18 : decode c_mo_alike 18 = .ok (.bipush 7, 2) := by decide +kernel
theorem d_mo_alike_20 : decode c_mo_alike 20 = .ok (.if_icmp .ne 18, 3) := by decide +kernel
theorem d_mo_alike_23 : decode c_mo_alike 23 = .ok (.aload_n 0, 1) := by decide +kernel
theorem d_mo_alike_24 : decode c_mo_alike 24 = .ok (.getfield 13, 3) := by decide +kernel
theorem d_mo_alike_27 : decode c_mo_alike 27 = .ok (.iload_n 1, 1) := by decide +kernel
theorem d_mo_alike_28 : decode c_mo_alike 28 = .ok (.iaload, 1) := by decide +kernel
theorem d_mo_alike_29 : decode c_mo_alike 29 = .ok (.aload_n 0, 1) := by decide +kernel
theorem d_mo_alike_30 : decode c_mo_alike 30 = .ok (.getfield 13, 3) := by decide +kernel
theorem d_mo_alike_33 : decode c_mo_alike 33 = .ok (.iload_n 2, 1) := by decide +kernel
theorem d_mo_alike_34 : decode c_mo_alike 34 = .ok (.iaload, 1) := by decide +kernel
theorem d_mo_alike_35 : decode c_mo_alike 35 = .ok (.if_icmp .gt 70, 3) := by decide +kernel
theorem d_mo_alike_38 : decode c_mo_alike 38 = .ok (.iload_n 3, 1) := by decide +kernel
theorem d_mo_alike_39 : decode c_mo_alike 39 = .ok (.bipush 11, 2) := by decide +kernel
theorem d_mo_alike_41 : decode c_mo_alike 41 = .ok (.if_icmp .lt 18, 3) := by decide +kernel
theorem d_mo_alike_44 : decode c_mo_alike 44 = .ok (.aload_n 0, 1) := by decide +kernel
theorem d_mo_alike_45 : decode c_mo_alike 45 = .ok (.getfield 13, 3) := by decide +kernel
theorem d_mo_alike_48 : decode c_mo_alike 48 = .ok (.iload_n 1, 1) := by decide +kernel
theorem d_mo_alike_49 : decode c_mo_alike 49 = .ok (.iaload, 1) := by decide +kernel
theorem d_mo_alike_50 : decode c_mo_alike 50 = .ok (.aload_n 0, 1) := by decide +kernel
theorem d_mo_alike_51 : decode c_mo_alike 51 = .ok (.getfield 13, 3) := by decide +kernel
theorem d_mo_alike_54 : decode c_mo_alike 54 = .ok (.iload_n 2, 1) := by decide +kernel
theorem d_mo_alike_55 : decode c_mo_alike 55 = .ok (.iaload, 1) := by decide +kernel
theorem d_mo_alike_56 : decode c_mo_alike 56 = .ok (.if_icmp .ne 49, 3) := by decide +kernel
theorem d_mo_alike_59 : decode c_mo_alike 59 = .ok (.iload_n 3, 1) := by decide +kernel
theorem d_mo_alike_60 : decode c_mo_alike 60 = .ok (.bipush 9, 2) := by decide +kernel
theorem d_mo_alike_62 : decode c_mo_alike 62 = .ok (.if_icmp .ne 18, 3) := by decide +kernel
theorem d_mo_alike_65 : decode c_mo_alike 65 = .ok (.aload_n 0, 1) := by decide +kernel
theorem d_mo_alike_66 : decode c_mo_alike 66 = .ok (.getfield 25, 3) := by decide +kernel
theorem d_mo_alike_69 : decode c_mo_alike 69 = .ok (.iload_n 1, 1) := by decide +kernel
theorem d_mo_alike_70 : decode c_mo_alike 70 = .ok (.iaload, 1) := by decide +kernel
theorem d_mo_alike_71 : decode c_mo_alike 71 = .ok (.aload_n 0, 1) := by decide +kernel
theorem d_mo_alike_72 : decode c_mo_alike 72 = .ok (.getfield 25, 3) := by decide +kernel
theorem d_mo_alike_75 : decode c_mo_alike 75 = .ok (.iload_n 2, 1) := by decide +kernel
theorem d_mo_alike_76 : decode c_mo_alike 76 = .ok (.iaload, 1) := by decide +kernel
theorem d_mo_alike_77 : decode c_mo_alike 77 = .ok (.if_icmp .lt 28, 3) := by decide +kernel
theorem d_mo_alike_80 : decode c_mo_alike 80 = .ok (.iload_n 3, 1) := by decide +kernel
theorem d_mo_alike_81 : decode c_mo_alike 81 = .ok (.bipush 10, 2) := by decide +kernel
theorem d_mo_alike_83 : decode c_mo_alike 83 = .ok (.if_icmp .ne 18, 3) := by decide +kernel
theorem d_mo_alike_86 : decode c_mo_alike 86 = .ok (.aload_n 0, 1) := by decide +kernel
theorem d_mo_alike_87 : decode c_mo_alike 87 = .ok (.getfield 25, 3) := by decide +kernel
theorem d_mo_alike_90 : decode c_mo_alike 90 = .ok (.iload_n 1, 1) := by decide +kernel
theorem d_mo_alike_91 : decode c_mo_alike 91 = .ok (.iaload, 1) := by decide +kernel
theorem d_mo_alike_92 : decode c_mo_alike 92 = .ok (.aload_n 0, 1) := by decide +kernel
theorem d_mo_alike_93 : decode c_mo_alike 93 = .ok (.getfield 25, 3) := by decide +kernel
theorem d_mo_alike_96 : decode c_mo_alike 96 = .ok (.iload_n 2, 1) := by decide +kernel
theorem d_mo_alike_97 : decode c_mo_alike 97 = .ok (.iaload, 1) := by decide +kernel
theorem d_mo_alike_98 : decode c_mo_alike 98 = .ok (.if_icmp .gt 7, 3) := by decide +kernel
theorem d_mo_alike_101 : decode c_mo_alike 101 = .ok (.iconst 1, 1) := by decide +kernel
theorem d_mo_alike_102 : decode c_mo_alike 102 = .ok (.goto 4, 3) := by decide +kernel
theorem d_mo_alike_105 : decode c_mo_alike 105 = .ok (.iconst 0, 1) := by decide +kernel
theorem d_mo_alike_106 : decode c_mo_alike 106 = .ok (.ireturn, 1) := by decide +kernel
theorem d_mo_await_0 : decode c_mo_await 0 = .ok (.aload_n 0, 1) := by decide +kernel
theorem d_mo_await_1 : decode c_mo_await 1 = .ok (.getfield 93, 3) := by decide +kernel
theorem d_mo_await_4 : decode c_mo_await 4 = .ok (.aload_n 0, 1) := by decide +kernel
theorem d_mo_await_5 : decode c_mo_await 5 = .ok (.getfield 181, 3) := by decide +kernel
theorem d_mo_await_8 : decode c_mo_await 8 = .ok (.iload_n 1, 1) := by decide +kernel
theorem d_mo_await_9 : decode c_mo_await 9 = .ok (.iastore, 1) := by decide +kernel
theorem d_mo_await_10 : decode c_mo_await 10 = .ok (.aload_n 0, 1) := by decide +kernel
theorem d_mo_await_11 : decode c_mo_await 11 = .ok (.getfield 96, 3) := by decide +kernel
theorem d_mo_await_14 : decode c_mo_await 14 = .ok (.aload_n 0, 1) := by decide +kernel
theorem d_mo_await_15 : decode c_mo_await 15 = .ok (.getfield 181, 3) := by decide +kernel
theorem d_mo_await_18 : decode c_mo_await 18 = .ok (.iload_n 2, 1) := by decide +kernel
theorem d_mo_await_19 : decode c_mo_await 19 = .ok (.iastore, 1) := by decide +kernel
theorem d_mo_await_20 : decode c_mo_await 20 = .ok (.aload_n 0, 1) := by decide +kernel
theorem d_mo_await_21 : decode c_mo_await 21 = .ok (.getfield 99, 3) := by decide +kernel
theorem d_mo_await_24 : decode c_mo_await 24 = .ok (.aload_n 0, 1) := by decide +kernel
theorem d_mo_await_25 : decode c_mo_await 25 = .ok (.getfield 181, 3) := by decide +kernel
theorem d_mo_await_28 : decode c_mo_await 28 = .ok (.iload_n 3, 1) := by decide +kernel
theorem d_mo_await_29 : decode c_mo_await 29 = .ok (.iastore, 1) := by decide +kernel
theorem d_mo_await_30 : decode c_mo_await 30 = .ok (.aload_n 0, 1) := by decide +kernel
theorem d_mo_await_31 : decode c_mo_await 31 = .ok (.getfield 102, 3) := by decide +kernel
theorem d_mo_await_34 : decode c_mo_await 34 = .ok (.aload_n 0, 1) := by decide +kernel
theorem d_mo_await_35 : decode c_mo_await 35 = .ok (.getfield 181, 3) := by decide +kernel
theorem d_mo_await_38 : decode c_mo_await 38 = .ok (.iload 4, 2) := by decide +kernel
theorem d_mo_await_40 : decode c_mo_await 40 = .ok (.iastore, 1) := by decide +kernel
theorem d_mo_await_41 : decode c_mo_await 41 = .ok (.aload_n 0, 1) := by decide +kernel
theorem d_mo_await_42 : decode c_mo_await 42 = .ok (.getfield 105, 3) := by decide +kernel
theorem d_mo_await_45 : decode c_mo_await 45 = .ok (.aload_n 0, 1) := by decide +kernel
theorem d_mo_await_46 : decode c_mo_await 46 = .ok (.getfield 181, 3) := by decide +kernel
theorem d_mo_await_49 : decode c_mo_await 49 = .ok (.iload 5, 2) := by decide +kernel
theorem d_mo_await_51 : decode c_mo_await 51 = .ok (.iastore, 1) := by decide +kernel
theorem d_mo_await_52 : decode c_mo_await 52 = .ok (.aload_n 0, 1) := by decide +kernel
theorem d_mo_await_53 : decode c_mo_await 53 = .ok (.getfield 108, 3) := by decide +kernel
theorem d_mo_await_56 : decode c_mo_await 56 = .ok (.aload_n 0, 1) := by decide +kernel
theorem d_mo_await_57 : decode c_mo_await 57 = .ok (.getfield 181, 3) := by decide +kernel
theorem d_mo_await_60 : decode c_mo_await 60 = .ok (.iload 6, 2) := by decide +kernel
theorem d_mo_await_62 : decode c_mo_await 62 = .ok (.iastore, 1) := by decide +kernel
theorem d_mo_await_63 : decode c_mo_await 63 = .ok (.aload_n 0, 1) := by decide +kernel
theorem d_mo_await_64 : decode c_mo_await 64 = .ok (.dup, 1) := by decide +kernel
theorem d_mo_await_65 : decode c_mo_await 65 = .ok (.getfield 181, 3) := by decide +kernel
theorem d_mo_await_68 : decode c_mo_await 68 = .ok (.iconst 1, 1) := by decide +kernel
theorem d_mo_await_69 : decode c_mo_await 69 = .ok (.iadd, 1) := by decide +kernel
theorem d_mo_await_70 : decode c_mo_await 70 = .ok (.putfield 181, 3) := by decide +kernel
theorem d_mo_await_73 : decode c_mo_await 73 = .ok (.return_, 1) := by decide +kernel
theorem d_mo_fails_0 : decode c_mo_fails 0 = .ok (.aload_n 0, 1) := by decide +kernel
theorem d_mo_fails_1 : decode c_mo_fails 1 = .ok (.getfield 224, 3) := by decide +kernel
theorem d_mo_fails_4 : decode c_mo_fails 4 = .ok (.ifCond .ne 13, 3) := by decide +kernel
theorem d_mo_fails_7 : decode c_mo_fails 7 = .ok (.aload_n 0, 1) := by decide +kernel
theorem d_mo_fails_8 : decode c_mo_fails 8 = .ok (.iload_n 1, 1) := by decide +kernel
theorem d_mo_fails_9 : decode c_mo_fails 9 = .ok (.putfield 224, 3) := by decide +kernel
theorem d_mo_fails_12 : decode c_mo_fails 12 = .ok (.aload_n 0, 1) := by decide +kernel
theorem d_mo_fails_13 : decode c_mo_fails 13 = .ok (.iload_n 2, 1) := by decide +kernel
theorem d_mo_fails_14 : decode c_mo_fails 14 = .ok (.putfield 227, 3) := by decide +kernel
theorem d_mo_fails_17 : decode c_mo_fails 17 = .ok (.return_, 1) := by decide +kernel
theorem d_mo_push_0 : decode c_mo_push 0 = .ok (.aload_n 0, 1) := by decide +kernel
theorem d_mo_push_1 : decode c_mo_push 1 = .ok (.getfield 80, 3) := by decide +kernel
theorem d_mo_push_4 : decode c_mo_push 4 = .ok (.aload_n 0, 1) := by decide +kernel
theorem d_mo_push_5 : decode c_mo_push 5 = .ok (.getfield 208, 3) := by decide +kernel
theorem d_mo_push_8 : decode c_mo_push 8 = .ok (.iload_n 1, 1) := by decide +kernel
theorem d_mo_push_9 : decode c_mo_push 9 = .ok (.iastore, 1) := by decide +kernel
theorem d_mo_push_10 : decode c_mo_push 10 = .ok (.aload_n 0, 1) := by decide +kernel
theorem d_mo_push_11 : decode c_mo_push 11 = .ok (.getfield 83, 3) := by decide +kernel
theorem d_mo_push_14 : decode c_mo_push 14 = .ok (.aload_n 0, 1) := by decide +kernel
theorem d_mo_push_15 : decode c_mo_push 15 = .ok (.getfield 208, 3) := by decide +kernel
theorem d_mo_push_18 : decode c_mo_push 18 = .ok (.iload_n 2, 1) := by decide +kernel
theorem d_mo_push_19 : decode c_mo_push 19 = .ok (.iastore, 1) := by decide +kernel
theorem d_mo_push_20 : decode c_mo_push 20 = .ok (.aload_n 0, 1) := by decide +kernel
theorem d_mo_push_21 : decode c_mo_push 21 = .ok (.getfield 86, 3) := by decide +kernel
theorem d_mo_push_24 : decode c_mo_push 24 = .ok (.aload_n 0, 1) := by decide +kernel
theorem d_mo_push_25 : decode c_mo_push 25 = .ok (.getfield 208, 3) := by decide +kernel
theorem d_mo_push_28 : decode c_mo_push 28 = .ok (.iload_n 3, 1) := by decide +kernel
theorem d_mo_push_29 : decode c_mo_push 29 = .ok (.iastore, 1) := by decide +kernel
theorem d_mo_push_30 : decode c_mo_push 30 = .ok (.aload_n 0, 1) := by decide +kernel
theorem d_mo_push_31 : decode c_mo_push 31 = .ok (.dup, 1) := by decide +kernel
theorem d_mo_push_32 : decode c_mo_push 32 = .ok (.getfield 208, 3) := by decide +kernel
theorem d_mo_push_35 : decode c_mo_push 35 = .ok (.iconst 1, 1) := by decide +kernel
theorem d_mo_push_36 : decode c_mo_push 36 = .ok (.iadd, 1) := by decide +kernel
theorem d_mo_push_37 : decode c_mo_push 37 = .ok (.putfield 208, 3) := by decide +kernel
theorem d_mo_push_40 : decode c_mo_push 40 = .ok (.aload_n 0, 1) := by decide +kernel
theorem d_mo_push_41 : decode c_mo_push 41 = .ok (.getfield 43, 3) := by decide +kernel
theorem d_mo_push_44 : decode c_mo_push 44 = .ok (.iload_n 1, 1) := by decide +kernel
theorem d_mo_push_45 : decode c_mo_push 45 = .ok (.iconst 1, 1) := by decide +kernel
theorem d_mo_push_46 : decode c_mo_push 46 = .ok (.iastore, 1) := by decide +kernel
theorem d_mo_push_47 : decode c_mo_push 47 = .ok (.return_, 1) := by decide +kernel
theorem d_mo_passed_0 : decode c_mo_passed 0 = .ok (.aload_n 0, 1) := by decide +kernel
theorem d_mo_passed_1 : decode c_mo_passed 1 = .ok (.iconst 0, 1) := by decide +kernel
theorem d_mo_passed_2 : decode c_mo_passed 2 = .ok (.putfield 141, 3) := by decide +kernel
theorem d_mo_passed_5 : decode c_mo_passed 5 = .ok (.aload_n 0, 1) := by decide +kernel
theorem d_mo_passed_6 : decode c_mo_passed 6 = .ok (.getfield 208, 3) := by decide +kernel
theorem d_mo_passed_9 : decode c_mo_passed 9 = .ok (.ifCond .ne 7, 3) := by decide +kernel
theorem d_mo_passed_12 : decode c_mo_passed 12 = .ok (.iconst (-1), 1) := by decide +kernel
theorem d_mo_passed_13 : decode c_mo_passed 13 = .ok (.goto 14, 3) := by decide +kernel
theorem d_mo_passed_16 : decode c_mo_passed 16 = .ok (.aload_n 0, 1) := by decide +kernel
theorem d_mo_passed_17 : decode c_mo_passed 17 = .ok (.getfield 86, 3) := by decide +kernel
theorem d_mo_passed_20 : decode c_mo_passed 20 = .ok (.aload_n 0, 1) := by decide +kernel
theorem d_mo_passed_21 : decode c_mo_passed 21 = .ok (.getfield 208, 3) := by decide +kernel
theorem d_mo_passed_24 : decode c_mo_passed 24 = .ok (.iconst 1, 1) := by decide +kernel
theorem d_mo_passed_25 : decode c_mo_passed 25 = .ok (.isub, 1) := by decide +kernel
theorem d_mo_passed_26 : decode c_mo_passed 26 = .ok (.iaload, 1) := by decide +kernel
theorem d_mo_passed_27 : decode c_mo_passed 27 = .ok (.ireturn, 1) := by decide +kernel
theorem d_mo_depth_0 : decode c_mo_depth 0 = .ok (.aload_n 0, 1) := by decide +kernel
theorem d_mo_depth_1 : decode c_mo_depth 1 = .ok (.iconst 0, 1) := by decide +kernel
theorem d_mo_depth_2 : decode c_mo_depth 2 = .ok (.putfield 141, 3) := by decide +kernel
theorem d_mo_depth_5 : decode c_mo_depth 5 = .ok (.aload_n 0, 1) := by decide +kernel
theorem d_mo_depth_6 : decode c_mo_depth 6 = .ok (.getfield 208, 3) := by decide +kernel
theorem d_mo_depth_9 : decode c_mo_depth 9 = .ok (.ireturn, 1) := by decide +kernel
theorem d_mo_level_0 : decode c_mo_level 0 = .ok (.aload_n 0, 1) := by decide +kernel
theorem d_mo_level_1 : decode c_mo_level 1 = .ok (.iconst 0, 1) := by decide +kernel
theorem d_mo_level_2 : decode c_mo_level 2 = .ok (.putfield 141, 3) := by decide +kernel
theorem d_mo_level_5 : decode c_mo_level 5 = .ok (.iload_n 1, 1) := by decide +kernel
theorem d_mo_level_6 : decode c_mo_level 6 = .ok (.ifCond .lt 20, 3) := by decide +kernel
theorem d_mo_level_9 : decode c_mo_level 9 = .ok (.iload_n 1, 1) := by decide +kernel
theorem d_mo_level_10 : decode c_mo_level 10 = .ok (.aload_n 0, 1) := by decide +kernel
theorem d_mo_level_11 : decode c_mo_level 11 = .ok (.getfield 208, 3) := by decide +kernel
theorem d_mo_level_14 : decode c_mo_level 14 = .ok (.if_icmp .ge 12, 3) := by decide +kernel
theorem d_mo_level_17 : decode c_mo_level 17 = .ok (.aload_n 0, 1) := by decide +kernel
theorem d_mo_level_18 : decode c_mo_level 18 = .ok (.getfield 80, 3) := by decide +kernel
theorem d_mo_level_21 : decode c_mo_level 21 = .ok (.iload_n 1, 1) := by decide +kernel
theorem d_mo_level_22 : decode c_mo_level 22 = .ok (.iaload, 1) := by decide +kernel
theorem d_mo_level_23 : decode c_mo_level 23 = .ok (.goto 4, 3) := by decide +kernel
theorem d_mo_level_26 : decode c_mo_level 26 = .ok (.iconst (-1), 1) := by decide +kernel
theorem d_mo_level_27 : decode c_mo_level 27 = .ok (.ireturn, 1) := by decide +kernel
theorem d_mo_byteAt_0 : decode c_mo_byteAt 0 = .ok (.aload_n 0, 1) := by decide +kernel
theorem d_mo_byteAt_1 : decode c_mo_byteAt 1 = .ok (.getfield 224, 3) := by decide +kernel
theorem d_mo_byteAt_4 : decode c_mo_byteAt 4 = .ok (.ifCond .le 5, 3) := by decide +kernel
theorem d_mo_byteAt_7 : decode c_mo_byteAt 7 = .ok (.iconst 0, 1) := by decide +kernel
theorem d_mo_byteAt_8 : decode c_mo_byteAt 8 = .ok (.ireturn, 1) := by decide +kernel
theorem d_mo_byteAt_9 : decode c_mo_byteAt 9 = .ok (.iload_n 2, 1) := by decide +kernel
theorem d_mo_byteAt_10 : decode c_mo_byteAt 10 = .ok (.ifCond .lt 10, 3) := by decide +kernel
theorem d_mo_byteAt_13 : decode c_mo_byteAt 13 = .ok (.iload_n 2, 1) := by decide +kernel
theorem d_mo_byteAt_14 : decode c_mo_byteAt 14 = .ok (.sipush 255, 3) := by decide +kernel
theorem d_mo_byteAt_17 : decode c_mo_byteAt 17 = .ok (.if_icmp .le 11, 3) := by decide +kernel
theorem d_mo_byteAt_20 : decode c_mo_byteAt 20 = .ok (.aload_n 0, 1) := by decide +kernel
theorem d_mo_byteAt_21 : decode c_mo_byteAt 21 = .ok (.iconst 1, 1) := by decide +kernel
theorem d_mo_byteAt_22 : decode c_mo_byteAt 22 = .ok (.iload_n 2, 1) := by decide +kernel
theorem d_mo_byteAt_23 : decode c_mo_byteAt 23 = .ok (.invokevirtual 230, 3) := by decide +kernel
theorem d_mo_byteAt_26 : decode c_mo_byteAt 26 = .ok (.iconst 0, 1) := by decide +kernel
theorem d_mo_byteAt_27 : decode c_mo_byteAt 27 = .ok (.ireturn, 1) := by decide +kernel
theorem d_mo_byteAt_28 : decode c_mo_byteAt 28 = .ok (.aload_n 0, 1) := by decide +kernel
theorem d_mo_byteAt_29 : decode c_mo_byteAt 29 = .ok (.getfield 37, 3) := by decide +kernel
theorem d_mo_byteAt_32 : decode c_mo_byteAt 32 = .ok (.sipush 256, 3) := by decide +kernel
theorem d_mo_byteAt_35 : decode c_mo_byteAt 35 = .ok (.iload_n 1, 1) := by decide +kernel
theorem d_mo_byteAt_36 : decode c_mo_byteAt 36 = .ok (.imul, 1) := by decide +kernel
theorem d_mo_byteAt_37 : decode c_mo_byteAt 37 = .ok (.iload_n 2, 1) := by decide +kernel
theorem d_mo_byteAt_38 : decode c_mo_byteAt 38 = .ok (.iadd, 1) := by decide +kernel
theorem d_mo_byteAt_39 : decode c_mo_byteAt 39 = .ok (.iaload, 1) := by decide +kernel
theorem d_mo_byteAt_40 : decode c_mo_byteAt 40 = .ok (.ireturn, 1) := by decide +kernel
end
section
def mo_psz (k : Int32) : Int32 := if k = 2 then 2 else if k = 3 ∨ k = 5 ∨ k = 6 ∨ k = 8 then 4 else if k = 4 then 8 else 1
def mo_aw (B : Nat → Nat → Int32) (w : Nat) (t u mn pl ab i : Int32) : Nat → Nat → Int32 := va_up (va_up (va_up (va_up (va_up (va_up B 37 (upd (B 37) w t)) 38 (upd (B 38) w u)) 39 (upd (B 39) w mn)) 40 (upd (B 40) w pl)) 41 (upd (B 41) w ab)) 42 (upd (B 42) w i)
abbrev mo_al (B : Nat → Nat → Int32) (t u : Nat) : Prop := B 2 t = B 2 u ∧ (B 2 t = 7 → ¬ B 3 u < B 3 t) ∧ (¬ B 2 t < 11 → B 3 t = B 3 u) ∧ (B 2 t = 9 → ¬ B 7 t < B 7 u) ∧ (B 2 t = 10 → ¬ B 7 u < B 7 t)
def mo_fl (F : Nat → Int32) (c p : Int32) : Nat → Int32 := if F 54 = 0 then upd (upd F 54 c) 55 p else F

set_option maxHeartbeats 4000000 in
set_option maxRecDepth 100000 in
theorem mt_thrown {l : Launch} {D : va_G} {tl : List (ClassId × FieldType)} {Z : (Nat → Prop) → State → Heap → Prop} {kI kZ : ClassId} {am : Nat → Nat} {F : Nat → Int32} {B : Nat → Nat → Int32} (hZ : ev_Zok Z)  : MT (mo_π l D cl_A kI kZ tl Z) m_thrown 0 0 [.ref (am 60)] (mo_W mo_ci am kI kZ F B) (mo_qi am kI kZ (fun x F1 B1 => x = F 0 ∧ F1 = F ∧ B1 = B)) := by
  refine mt_of mo_pl rfl (Nat.le_of_ble_eq_true rfl) (ev_eq (lv' := [some (.ref (am 60))]) ?_)
  refine ev_aload_0 0 d_mo_thrown_0 ?_
  refine mo_geti 1 0 d_mo_thrown_1 lk_141 ?_
  refine ev_iret 4 d_mo_thrown_4 rfl ?_
  exact ⟨_, _, _, rfl, rfl, rfl, rfl, rfl⟩

set_option maxHeartbeats 4000000 in
set_option maxRecDepth 100000 in
theorem mt_refuses {l : Launch} {D : va_G} {tl : List (ClassId × FieldType)} {Z : (Nat → Prop) → State → Heap → Prop} {kI kZ : ClassId} {am : Nat → Nat} {F : Nat → Int32} {B : Nat → Nat → Int32} (hZ : ev_Zok Z) (c : Int32)  : MT (mo_π l D cl_A kI kZ tl Z) m_refuses 0 0 [.ref (am 60), .int c] (mo_W mo_ci am kI kZ F B) (mo_qi am kI kZ (fun x F1 B1 => mo_bl x (¬ c ≤ 0) ∧ F1 = upd F 0 c ∧ B1 = B)) := by
  refine mt_of mo_pl rfl (Nat.le_of_ble_eq_true rfl) (ev_eq (lv' := [some (.ref (am 60)), some (.int c)]) ?_)
  refine ev_aload_0 0 d_mo_refuses_0 ?_
  refine ev_iload_1 1 d_mo_refuses_1 ?_
  refine mo_puti 2 0 d_mo_refuses_2 lp_141 ?_
  refine ev_iload_1 5 d_mo_refuses_5 ?_
  refine ev_ifle 6 13 d_mo_refuses_6 (fun c6 => ?_) (fun c6 => ?_)
  · refine ev_iconst_0 13 d_mo_refuses_13 ?_
    refine ev_zret 14 d_mo_refuses_14 rfl ?_ ?_
    · rfl
    exact ⟨_, _, _, rfl, rfl, by first | exact Or.inl ⟨rfl, c6⟩ | exact Or.inr ⟨rfl, fun z => z c6⟩, rfl, rfl⟩
  · refine ev_iconst_1 9 d_mo_refuses_9 ?_
    refine ev_goto 10 14 d_mo_refuses_10 ?_
    refine ev_zret 14 d_mo_refuses_14 rfl ?_ ?_
    · rfl
    exact ⟨_, _, _, rfl, rfl, by first | exact Or.inl ⟨rfl, c6⟩ | exact Or.inr ⟨rfl, fun z => z c6⟩, rfl, rfl⟩

set_option maxHeartbeats 4000000 in
set_option maxRecDepth 100000 in
theorem mt_isType {l : Launch} {D : va_G} {tl : List (ClassId × FieldType)} {Z : (Nat → Prop) → State → Heap → Prop} {kI kZ : ClassId} {am : Nat → Nat} {F : Nat → Int32} {B : Nat → Nat → Int32} (hZ : ev_Zok Z) (t : Int32)  : MT (mo_π l D cl_A kI kZ tl Z) m_isType 0 0 [.ref (am 60), .int t] (mo_W mo_ci am kI kZ F B) (mo_qi am kI kZ (fun x F1 B1 => mo_bl x (¬ t < 0 ∧ ¬ F 1 ≤ t) ∧ F1 = F ∧ B1 = B)) := by
  refine mt_of mo_pl rfl (Nat.le_of_ble_eq_true rfl) (ev_eq (lv' := [some (.ref (am 60)), some (.int t)]) ?_)
  refine ev_iload_1 0 d_mo_isType_0 ?_
  refine ev_iflt 1 16 d_mo_isType_1 (fun c1 => ?_) (fun c1 => ?_)
  · refine ev_iconst_0 16 d_mo_isType_16 ?_
    refine ev_zret 17 d_mo_isType_17 rfl ?_ ?_
    · rfl
    exact ⟨_, _, _, rfl, rfl, by first | exact Or.inl ⟨rfl, c1, c9⟩ | exact Or.inr ⟨rfl, fun z => z.1 c1⟩ | exact Or.inr ⟨rfl, fun z => z.2 c9⟩, rfl, rfl⟩
  · refine ev_iload_1 4 d_mo_isType_4 ?_
    refine ev_aload_0 5 d_mo_isType_5 ?_
    refine mo_geti 6 1 d_mo_isType_6 lk_144 ?_
    refine ev_icmpge 9 16 d_mo_isType_9 (fun c9 => ?_) (fun c9 => ?_)
    · refine ev_iconst_0 16 d_mo_isType_16 ?_
      refine ev_zret 17 d_mo_isType_17 rfl ?_ ?_
      · rfl
      exact ⟨_, _, _, rfl, rfl, by first | exact Or.inl ⟨rfl, c1, c9⟩ | exact Or.inr ⟨rfl, fun z => z.1 c1⟩ | exact Or.inr ⟨rfl, fun z => z.2 c9⟩, rfl, rfl⟩
    · refine ev_iconst_1 12 d_mo_isType_12 ?_
      refine ev_goto 13 17 d_mo_isType_13 ?_
      refine ev_zret 17 d_mo_isType_17 rfl ?_ ?_
      · rfl
      exact ⟨_, _, _, rfl, rfl, by first | exact Or.inl ⟨rfl, c1, c9⟩ | exact Or.inr ⟨rfl, fun z => z.1 c1⟩ | exact Or.inr ⟨rfl, fun z => z.2 c9⟩, rfl, rfl⟩

set_option maxHeartbeats 4000000 in
set_option maxRecDepth 100000 in
theorem mt_isInstance {l : Launch} {D : va_G} {tl : List (ClassId × FieldType)} {Z : (Nat → Prop) → State → Heap → Prop} {kI kZ : ClassId} {am : Nat → Nat} {F : Nat → Int32} {B : Nat → Nat → Int32} (hZ : ev_Zok Z) (t : Int32)  : MT (mo_π l D cl_A kI kZ tl Z) m_isInstance 0 0 [.ref (am 60), .int t] (mo_W mo_ci am kI kZ F B) (mo_qi am kI kZ (fun x F1 B1 => mo_bl x (¬ t < 0 ∧ ¬ F 12 ≤ t) ∧ F1 = F ∧ B1 = B)) := by
  refine mt_of mo_pl rfl (Nat.le_of_ble_eq_true rfl) (ev_eq (lv' := [some (.ref (am 60)), some (.int t)]) ?_)
  refine ev_iload_1 0 d_mo_isInstance_0 ?_
  refine ev_iflt 1 16 d_mo_isInstance_1 (fun c1 => ?_) (fun c1 => ?_)
  · refine ev_iconst_0 16 d_mo_isInstance_16 ?_
    refine ev_zret 17 d_mo_isInstance_17 rfl ?_ ?_
    · rfl
    exact ⟨_, _, _, rfl, rfl, by first | exact Or.inl ⟨rfl, c1, c9⟩ | exact Or.inr ⟨rfl, fun z => z.1 c1⟩ | exact Or.inr ⟨rfl, fun z => z.2 c9⟩, rfl, rfl⟩
  · refine ev_iload_1 4 d_mo_isInstance_4 ?_
    refine ev_aload_0 5 d_mo_isInstance_5 ?_
    refine mo_geti 6 12 d_mo_isInstance_6 lk_147 ?_
    refine ev_icmpge 9 16 d_mo_isInstance_9 (fun c9 => ?_) (fun c9 => ?_)
    · refine ev_iconst_0 16 d_mo_isInstance_16 ?_
      refine ev_zret 17 d_mo_isInstance_17 rfl ?_ ?_
      · rfl
      exact ⟨_, _, _, rfl, rfl, by first | exact Or.inl ⟨rfl, c1, c9⟩ | exact Or.inr ⟨rfl, fun z => z.1 c1⟩ | exact Or.inr ⟨rfl, fun z => z.2 c9⟩, rfl, rfl⟩
    · refine ev_iconst_1 12 d_mo_isInstance_12 ?_
      refine ev_goto 13 17 d_mo_isInstance_13 ?_
      refine ev_zret 17 d_mo_isInstance_17 rfl ?_ ?_
      · rfl
      exact ⟨_, _, _, rfl, rfl, by first | exact Or.inl ⟨rfl, c1, c9⟩ | exact Or.inr ⟨rfl, fun z => z.1 c1⟩ | exact Or.inr ⟨rfl, fun z => z.2 c9⟩, rfl, rfl⟩

set_option maxHeartbeats 4000000 in
set_option maxRecDepth 100000 in
theorem mt_upTo {l : Launch} {D : va_G} {tl : List (ClassId × FieldType)} {Z : (Nat → Prop) → State → Heap → Prop} {kI kZ : ClassId} {am : Nat → Nat} {F : Nat → Int32} {B : Nat → Nat → Int32} (hZ : ev_Zok Z) (pl : Int32) (al : Int32) (ha : ¬ al = 0) : MT (mo_π l D cl_A kI kZ tl Z) m_upTo 0 0 [.int pl, .int al] (mo_W mo_ci am kI kZ F B) (mo_qi am kI kZ (fun x F1 B1 => x = (pl + al - 1) / al * al ∧ F1 = F ∧ B1 = B)) := by
  refine mt_of mo_pl rfl (Nat.le_of_ble_eq_true rfl) (ev_eq (lv' := [some (.int pl), some (.int al)]) ?_)
  refine ev_iload_0 0 d_mo_upTo_0 ?_
  refine ev_iload_1 1 d_mo_upTo_1 ?_
  refine ev_iadd 2 d_mo_upTo_2 ?_
  refine ev_iconst_1 3 d_mo_upTo_3 ?_
  refine ev_isub 4 d_mo_upTo_4 ?_
  refine ev_iload_1 5 d_mo_upTo_5 ?_
  refine ev_idiv 6 d_mo_upTo_6 (by exact ha) ?_
  refine ev_iload_1 7 d_mo_upTo_7 ?_
  refine ev_imul 8 d_mo_upTo_8 ?_
  refine ev_iret 9 d_mo_upTo_9 rfl ?_
  exact ⟨_, _, _, rfl, rfl, rfl, rfl, rfl⟩

set_option maxHeartbeats 4000000 in
set_option maxRecDepth 100000 in
theorem mt_plainSize {l : Launch} {D : va_G} {tl : List (ClassId × FieldType)} {Z : (Nat → Prop) → State → Heap → Prop} {kI kZ : ClassId} {am : Nat → Nat} {F : Nat → Int32} {B : Nat → Nat → Int32} (hZ : ev_Zok Z) (k : Int32)  : MT (mo_π l D cl_A kI kZ tl Z) m_plainSize 0 0 [.int k] (mo_W mo_ci am kI kZ F B) (mo_qi am kI kZ (fun x F1 B1 => x = mo_psz k ∧ F1 = F ∧ B1 = B)) := by
  refine mt_of mo_pl rfl (Nat.le_of_ble_eq_true rfl) (ev_eq (lv' := [some (.int k)]) ?_)
  refine ev_iload_0 0 d_mo_plainSize_0 ?_
  refine ev_iconst_2 1 d_mo_plainSize_1 ?_
  refine ev_icmpne 2 9 d_mo_plainSize_2 (fun c2 => ?_) (fun c2 => ?_)
  · refine ev_iload_0 9 d_mo_plainSize_9 ?_
    refine ev_iconst_3 10 d_mo_plainSize_10 ?_
    refine ev_icmpeq 11 31 d_mo_plainSize_11 (fun c11 => ?_) (fun c11 => ?_)
    · refine ev_iconst_4 31 d_mo_plainSize_31 ?_
      refine ev_goto 32 46 d_mo_plainSize_32 ?_
      refine ev_iret 46 d_mo_plainSize_46 rfl ?_
      exact ⟨_, _, _, rfl, rfl, by simp_all [mo_psz], rfl, rfl⟩
    · refine ev_iload_0 14 d_mo_plainSize_14 ?_
      refine ev_iconst_5 15 d_mo_plainSize_15 ?_
      refine ev_icmpeq 16 31 d_mo_plainSize_16 (fun c16 => ?_) (fun c16 => ?_)
      · refine ev_iconst_4 31 d_mo_plainSize_31 ?_
        refine ev_goto 32 46 d_mo_plainSize_32 ?_
        refine ev_iret 46 d_mo_plainSize_46 rfl ?_
        exact ⟨_, _, _, rfl, rfl, by simp_all [mo_psz], rfl, rfl⟩
      · refine ev_iload_0 19 d_mo_plainSize_19 ?_
        refine ev_bipush (6) 20 d_mo_plainSize_20 (by decide) ?_
        refine ev_icmpeq 22 31 d_mo_plainSize_22 (fun c22 => ?_) (fun c22 => ?_)
        · refine ev_iconst_4 31 d_mo_plainSize_31 ?_
          refine ev_goto 32 46 d_mo_plainSize_32 ?_
          refine ev_iret 46 d_mo_plainSize_46 rfl ?_
          exact ⟨_, _, _, rfl, rfl, by simp_all [mo_psz], rfl, rfl⟩
        · refine ev_iload_0 25 d_mo_plainSize_25 ?_
          refine ev_bipush (8) 26 d_mo_plainSize_26 (by decide) ?_
          refine ev_icmpne 28 35 d_mo_plainSize_28 (fun c28 => ?_) (fun c28 => ?_)
          · refine ev_iload_0 35 d_mo_plainSize_35 ?_
            refine ev_iconst_4 36 d_mo_plainSize_36 ?_
            refine ev_icmpne 37 45 d_mo_plainSize_37 (fun c37 => ?_) (fun c37 => ?_)
            · refine ev_iconst_1 45 d_mo_plainSize_45 ?_
              refine ev_iret 46 d_mo_plainSize_46 rfl ?_
              exact ⟨_, _, _, rfl, rfl, by simp_all [mo_psz], rfl, rfl⟩
            · refine ev_bipush (8) 40 d_mo_plainSize_40 (by decide) ?_
              refine ev_goto 42 46 d_mo_plainSize_42 ?_
              refine ev_iret 46 d_mo_plainSize_46 rfl ?_
              exact ⟨_, _, _, rfl, rfl, by simp_all [mo_psz], rfl, rfl⟩
          · refine ev_iconst_4 31 d_mo_plainSize_31 ?_
            refine ev_goto 32 46 d_mo_plainSize_32 ?_
            refine ev_iret 46 d_mo_plainSize_46 rfl ?_
            exact ⟨_, _, _, rfl, rfl, by simp_all [mo_psz], rfl, rfl⟩
  · refine ev_iconst_2 5 d_mo_plainSize_5 ?_
    refine ev_goto 6 46 d_mo_plainSize_6 ?_
    refine ev_iret 46 d_mo_plainSize_46 rfl ?_
    exact ⟨_, _, _, rfl, rfl, by simp_all [mo_psz], rfl, rfl⟩

set_option maxHeartbeats 4000000 in
set_option maxRecDepth 100000 in
theorem mt_shared {l : Launch} {D : va_G} {tl : List (ClassId × FieldType)} {Z : (Nat → Prop) → State → Heap → Prop} {kI kZ : ClassId} {am : Nat → Nat} {F : Nat → Int32} {B : Nat → Nat → Int32} (hZ : ev_Zok Z) (t : Int32) (u : Int32) (ht : vp_in t 32) (hu : vp_in u 32) : MT (mo_π l D cl_A kI kZ tl Z) m_shared 0 0 [.ref (am 60), .int t, .int u] (mo_W mo_ci am kI kZ F B) (mo_qi am kI kZ (fun x F1 B1 => x = (if B 7 u.toNatClampNeg ≤ B 7 t.toNatClampNeg then B 7 u.toNatClampNeg else B 7 t.toNatClampNeg) ∧ F1 = F ∧ B1 = B)) := by
  refine mt_of mo_pl rfl (Nat.le_of_ble_eq_true rfl) (ev_eq (lv' := [some (.ref (am 60)), some (.int t), some (.int u)]) ?_)
  refine ev_aload_0 0 d_mo_shared_0 ?_
  refine mo_getr 1 5 7 d_mo_shared_1 lk_25 ?_
  refine ev_iload_1 4 d_mo_shared_4 ?_
  refine mo_ald 5 5 7 d_mo_shared_5 (by first | exact ht | exact hu) ?_
  refine ev_aload_0 6 d_mo_shared_6 ?_
  refine mo_getr 7 5 7 d_mo_shared_7 lk_25 ?_
  refine ev_iload_2 10 d_mo_shared_10 ?_
  refine mo_ald 11 5 7 d_mo_shared_11 (by first | exact ht | exact hu) ?_
  refine ev_icmpge 12 24 d_mo_shared_12 (fun c12 => ?_) (fun c12 => ?_)
  · refine ev_aload_0 24 d_mo_shared_24 ?_
    refine mo_getr 25 5 7 d_mo_shared_25 lk_25 ?_
    refine ev_iload_2 28 d_mo_shared_28 ?_
    refine mo_ald 29 5 7 d_mo_shared_29 (by first | exact ht | exact hu) ?_
    refine ev_iret 30 d_mo_shared_30 rfl ?_
    exact ⟨_, _, _, rfl, rfl, by first | rw [if_pos c12] | rw [if_neg c12], rfl, rfl⟩
  · refine ev_aload_0 15 d_mo_shared_15 ?_
    refine mo_getr 16 5 7 d_mo_shared_16 lk_25 ?_
    refine ev_iload_1 19 d_mo_shared_19 ?_
    refine mo_ald 20 5 7 d_mo_shared_20 (by first | exact ht | exact hu) ?_
    refine ev_goto 21 30 d_mo_shared_21 ?_
    refine ev_iret 30 d_mo_shared_30 rfl ?_
    exact ⟨_, _, _, rfl, rfl, by first | rw [if_pos c12] | rw [if_neg c12], rfl, rfl⟩

set_option maxHeartbeats 4000000 in
set_option maxRecDepth 100000 in
theorem mt_alike {l : Launch} {D : va_G} {tl : List (ClassId × FieldType)} {Z : (Nat → Prop) → State → Heap → Prop} {kI kZ : ClassId} {am : Nat → Nat} {F : Nat → Int32} {B : Nat → Nat → Int32} (hZ : ev_Zok Z) (t : Int32) (u : Int32) (ht : vp_in t 32) (hu : vp_in u 32) : MT (mo_π l D cl_A kI kZ tl Z) m_alike 0 0 [.ref (am 60), .int t, .int u] (mo_W mo_ci am kI kZ F B) (mo_qi am kI kZ (fun x F1 B1 => mo_bl x (mo_al B t.toNatClampNeg u.toNatClampNeg) ∧ F1 = F ∧ B1 = B)) := by
  refine mt_of mo_pl rfl (Nat.le_of_ble_eq_true rfl) (ev_eq (lv' := [some (.ref (am 60)), some (.int t), some (.int u), none]) ?_)
  refine ev_aload_0 0 d_mo_alike_0 ?_
  refine mo_getr 1 0 2 d_mo_alike_1 lk_7 ?_
  refine ev_iload_1 4 d_mo_alike_4 ?_
  refine mo_ald 5 0 2 d_mo_alike_5 (by first | exact ht | exact hu) ?_
  refine ev_istore_3 6 d_mo_alike_6 ?_
  refine ev_iload_3 7 d_mo_alike_7 ?_
  refine ev_aload_0 8 d_mo_alike_8 ?_
  refine mo_getr 9 0 2 d_mo_alike_9 lk_7 ?_
  refine ev_iload_2 12 d_mo_alike_12 ?_
  refine mo_ald 13 0 2 d_mo_alike_13 (by first | exact ht | exact hu) ?_
  refine ev_icmpne 14 105 d_mo_alike_14 (fun c14 => ?_) (fun c14 => ?_)
  · refine ev_iconst_0 105 d_mo_alike_105 ?_
    refine ev_zret 106 d_mo_alike_106 rfl ?_ ?_
    · rfl
    exact ⟨_, _, _, rfl, rfl, by unfold mo_bl mo_al; grind, rfl, rfl⟩
  · refine ev_iload_3 17 d_mo_alike_17 ?_
    refine ev_bipush (7) 18 d_mo_alike_18 (by decide) ?_
    refine ev_icmpne 20 38 d_mo_alike_20 (fun c20 => ?_) (fun c20 => ?_)
    · refine ev_iload_3 38 d_mo_alike_38 ?_
      refine ev_bipush (11) 39 d_mo_alike_39 (by decide) ?_
      refine ev_icmplt 41 59 d_mo_alike_41 (fun c41 => ?_) (fun c41 => ?_)
      · refine ev_iload_3 59 d_mo_alike_59 ?_
        refine ev_bipush (9) 60 d_mo_alike_60 (by decide) ?_
        refine ev_icmpne 62 80 d_mo_alike_62 (fun c62 => ?_) (fun c62 => ?_)
        · refine ev_iload_3 80 d_mo_alike_80 ?_
          refine ev_bipush (10) 81 d_mo_alike_81 (by decide) ?_
          refine ev_icmpne 83 101 d_mo_alike_83 (fun c83 => ?_) (fun c83 => ?_)
          · refine ev_iconst_1 101 d_mo_alike_101 ?_
            refine ev_goto 102 106 d_mo_alike_102 ?_
            refine ev_zret 106 d_mo_alike_106 rfl ?_ ?_
            · rfl
            exact ⟨_, _, _, rfl, rfl, by unfold mo_bl mo_al; grind, rfl, rfl⟩
          · refine ev_aload_0 86 d_mo_alike_86 ?_
            refine mo_getr 87 5 7 d_mo_alike_87 lk_25 ?_
            refine ev_iload_1 90 d_mo_alike_90 ?_
            refine mo_ald 91 5 7 d_mo_alike_91 (by first | exact ht | exact hu) ?_
            refine ev_aload_0 92 d_mo_alike_92 ?_
            refine mo_getr 93 5 7 d_mo_alike_93 lk_25 ?_
            refine ev_iload_2 96 d_mo_alike_96 ?_
            refine mo_ald 97 5 7 d_mo_alike_97 (by first | exact ht | exact hu) ?_
            refine ev_icmpgt 98 105 d_mo_alike_98 (fun c98 => ?_) (fun c98 => ?_)
            · refine ev_iconst_0 105 d_mo_alike_105 ?_
              refine ev_zret 106 d_mo_alike_106 rfl ?_ ?_
              · rfl
              exact ⟨_, _, _, rfl, rfl, by unfold mo_bl mo_al; grind, rfl, rfl⟩
            · refine ev_iconst_1 101 d_mo_alike_101 ?_
              refine ev_goto 102 106 d_mo_alike_102 ?_
              refine ev_zret 106 d_mo_alike_106 rfl ?_ ?_
              · rfl
              exact ⟨_, _, _, rfl, rfl, by unfold mo_bl mo_al; grind, rfl, rfl⟩
        · refine ev_aload_0 65 d_mo_alike_65 ?_
          refine mo_getr 66 5 7 d_mo_alike_66 lk_25 ?_
          refine ev_iload_1 69 d_mo_alike_69 ?_
          refine mo_ald 70 5 7 d_mo_alike_70 (by first | exact ht | exact hu) ?_
          refine ev_aload_0 71 d_mo_alike_71 ?_
          refine mo_getr 72 5 7 d_mo_alike_72 lk_25 ?_
          refine ev_iload_2 75 d_mo_alike_75 ?_
          refine mo_ald 76 5 7 d_mo_alike_76 (by first | exact ht | exact hu) ?_
          refine ev_icmplt 77 105 d_mo_alike_77 (fun c77 => ?_) (fun c77 => ?_)
          · refine ev_iconst_0 105 d_mo_alike_105 ?_
            refine ev_zret 106 d_mo_alike_106 rfl ?_ ?_
            · rfl
            exact ⟨_, _, _, rfl, rfl, by unfold mo_bl mo_al; grind, rfl, rfl⟩
          · refine ev_iload_3 80 d_mo_alike_80 ?_
            refine ev_bipush (10) 81 d_mo_alike_81 (by decide) ?_
            refine ev_icmpne 83 101 d_mo_alike_83 (fun c83 => ?_) (fun c83 => ?_)
            · refine ev_iconst_1 101 d_mo_alike_101 ?_
              refine ev_goto 102 106 d_mo_alike_102 ?_
              refine ev_zret 106 d_mo_alike_106 rfl ?_ ?_
              · rfl
              exact ⟨_, _, _, rfl, rfl, by unfold mo_bl mo_al; grind, rfl, rfl⟩
            · refine ev_aload_0 86 d_mo_alike_86 ?_
              refine mo_getr 87 5 7 d_mo_alike_87 lk_25 ?_
              refine ev_iload_1 90 d_mo_alike_90 ?_
              refine mo_ald 91 5 7 d_mo_alike_91 (by first | exact ht | exact hu) ?_
              refine ev_aload_0 92 d_mo_alike_92 ?_
              refine mo_getr 93 5 7 d_mo_alike_93 lk_25 ?_
              refine ev_iload_2 96 d_mo_alike_96 ?_
              refine mo_ald 97 5 7 d_mo_alike_97 (by first | exact ht | exact hu) ?_
              refine ev_icmpgt 98 105 d_mo_alike_98 (fun c98 => ?_) (fun c98 => ?_)
              · refine ev_iconst_0 105 d_mo_alike_105 ?_
                refine ev_zret 106 d_mo_alike_106 rfl ?_ ?_
                · rfl
                exact ⟨_, _, _, rfl, rfl, by unfold mo_bl mo_al; grind, rfl, rfl⟩
              · refine ev_iconst_1 101 d_mo_alike_101 ?_
                refine ev_goto 102 106 d_mo_alike_102 ?_
                refine ev_zret 106 d_mo_alike_106 rfl ?_ ?_
                · rfl
                exact ⟨_, _, _, rfl, rfl, by unfold mo_bl mo_al; grind, rfl, rfl⟩
      · refine ev_aload_0 44 d_mo_alike_44 ?_
        refine mo_getr 45 1 3 d_mo_alike_45 lk_13 ?_
        refine ev_iload_1 48 d_mo_alike_48 ?_
        refine mo_ald 49 1 3 d_mo_alike_49 (by first | exact ht | exact hu) ?_
        refine ev_aload_0 50 d_mo_alike_50 ?_
        refine mo_getr 51 1 3 d_mo_alike_51 lk_13 ?_
        refine ev_iload_2 54 d_mo_alike_54 ?_
        refine mo_ald 55 1 3 d_mo_alike_55 (by first | exact ht | exact hu) ?_
        refine ev_icmpne 56 105 d_mo_alike_56 (fun c56 => ?_) (fun c56 => ?_)
        · refine ev_iconst_0 105 d_mo_alike_105 ?_
          refine ev_zret 106 d_mo_alike_106 rfl ?_ ?_
          · rfl
          exact ⟨_, _, _, rfl, rfl, by unfold mo_bl mo_al; grind, rfl, rfl⟩
        · refine ev_iload_3 59 d_mo_alike_59 ?_
          refine ev_bipush (9) 60 d_mo_alike_60 (by decide) ?_
          refine ev_icmpne 62 80 d_mo_alike_62 (fun c62 => ?_) (fun c62 => ?_)
          · refine ev_iload_3 80 d_mo_alike_80 ?_
            refine ev_bipush (10) 81 d_mo_alike_81 (by decide) ?_
            refine ev_icmpne 83 101 d_mo_alike_83 (fun c83 => ?_) (fun c83 => ?_)
            · refine ev_iconst_1 101 d_mo_alike_101 ?_
              refine ev_goto 102 106 d_mo_alike_102 ?_
              refine ev_zret 106 d_mo_alike_106 rfl ?_ ?_
              · rfl
              exact ⟨_, _, _, rfl, rfl, by unfold mo_bl mo_al; grind, rfl, rfl⟩
            · refine ev_aload_0 86 d_mo_alike_86 ?_
              refine mo_getr 87 5 7 d_mo_alike_87 lk_25 ?_
              refine ev_iload_1 90 d_mo_alike_90 ?_
              refine mo_ald 91 5 7 d_mo_alike_91 (by first | exact ht | exact hu) ?_
              refine ev_aload_0 92 d_mo_alike_92 ?_
              refine mo_getr 93 5 7 d_mo_alike_93 lk_25 ?_
              refine ev_iload_2 96 d_mo_alike_96 ?_
              refine mo_ald 97 5 7 d_mo_alike_97 (by first | exact ht | exact hu) ?_
              refine ev_icmpgt 98 105 d_mo_alike_98 (fun c98 => ?_) (fun c98 => ?_)
              · refine ev_iconst_0 105 d_mo_alike_105 ?_
                refine ev_zret 106 d_mo_alike_106 rfl ?_ ?_
                · rfl
                exact ⟨_, _, _, rfl, rfl, by unfold mo_bl mo_al; grind, rfl, rfl⟩
              · refine ev_iconst_1 101 d_mo_alike_101 ?_
                refine ev_goto 102 106 d_mo_alike_102 ?_
                refine ev_zret 106 d_mo_alike_106 rfl ?_ ?_
                · rfl
                exact ⟨_, _, _, rfl, rfl, by unfold mo_bl mo_al; grind, rfl, rfl⟩
          · refine ev_aload_0 65 d_mo_alike_65 ?_
            refine mo_getr 66 5 7 d_mo_alike_66 lk_25 ?_
            refine ev_iload_1 69 d_mo_alike_69 ?_
            refine mo_ald 70 5 7 d_mo_alike_70 (by first | exact ht | exact hu) ?_
            refine ev_aload_0 71 d_mo_alike_71 ?_
            refine mo_getr 72 5 7 d_mo_alike_72 lk_25 ?_
            refine ev_iload_2 75 d_mo_alike_75 ?_
            refine mo_ald 76 5 7 d_mo_alike_76 (by first | exact ht | exact hu) ?_
            refine ev_icmplt 77 105 d_mo_alike_77 (fun c77 => ?_) (fun c77 => ?_)
            · refine ev_iconst_0 105 d_mo_alike_105 ?_
              refine ev_zret 106 d_mo_alike_106 rfl ?_ ?_
              · rfl
              exact ⟨_, _, _, rfl, rfl, by unfold mo_bl mo_al; grind, rfl, rfl⟩
            · refine ev_iload_3 80 d_mo_alike_80 ?_
              refine ev_bipush (10) 81 d_mo_alike_81 (by decide) ?_
              refine ev_icmpne 83 101 d_mo_alike_83 (fun c83 => ?_) (fun c83 => ?_)
              · refine ev_iconst_1 101 d_mo_alike_101 ?_
                refine ev_goto 102 106 d_mo_alike_102 ?_
                refine ev_zret 106 d_mo_alike_106 rfl ?_ ?_
                · rfl
                exact ⟨_, _, _, rfl, rfl, by unfold mo_bl mo_al; grind, rfl, rfl⟩
              · refine ev_aload_0 86 d_mo_alike_86 ?_
                refine mo_getr 87 5 7 d_mo_alike_87 lk_25 ?_
                refine ev_iload_1 90 d_mo_alike_90 ?_
                refine mo_ald 91 5 7 d_mo_alike_91 (by first | exact ht | exact hu) ?_
                refine ev_aload_0 92 d_mo_alike_92 ?_
                refine mo_getr 93 5 7 d_mo_alike_93 lk_25 ?_
                refine ev_iload_2 96 d_mo_alike_96 ?_
                refine mo_ald 97 5 7 d_mo_alike_97 (by first | exact ht | exact hu) ?_
                refine ev_icmpgt 98 105 d_mo_alike_98 (fun c98 => ?_) (fun c98 => ?_)
                · refine ev_iconst_0 105 d_mo_alike_105 ?_
                  refine ev_zret 106 d_mo_alike_106 rfl ?_ ?_
                  · rfl
                  exact ⟨_, _, _, rfl, rfl, by unfold mo_bl mo_al; grind, rfl, rfl⟩
                · refine ev_iconst_1 101 d_mo_alike_101 ?_
                  refine ev_goto 102 106 d_mo_alike_102 ?_
                  refine ev_zret 106 d_mo_alike_106 rfl ?_ ?_
                  · rfl
                  exact ⟨_, _, _, rfl, rfl, by unfold mo_bl mo_al; grind, rfl, rfl⟩
    · refine ev_aload_0 23 d_mo_alike_23 ?_
      refine mo_getr 24 1 3 d_mo_alike_24 lk_13 ?_
      refine ev_iload_1 27 d_mo_alike_27 ?_
      refine mo_ald 28 1 3 d_mo_alike_28 (by first | exact ht | exact hu) ?_
      refine ev_aload_0 29 d_mo_alike_29 ?_
      refine mo_getr 30 1 3 d_mo_alike_30 lk_13 ?_
      refine ev_iload_2 33 d_mo_alike_33 ?_
      refine mo_ald 34 1 3 d_mo_alike_34 (by first | exact ht | exact hu) ?_
      refine ev_icmpgt 35 105 d_mo_alike_35 (fun c35 => ?_) (fun c35 => ?_)
      · refine ev_iconst_0 105 d_mo_alike_105 ?_
        refine ev_zret 106 d_mo_alike_106 rfl ?_ ?_
        · rfl
        exact ⟨_, _, _, rfl, rfl, by unfold mo_bl mo_al; grind, rfl, rfl⟩
      · refine ev_iload_3 38 d_mo_alike_38 ?_
        refine ev_bipush (11) 39 d_mo_alike_39 (by decide) ?_
        refine ev_icmplt 41 59 d_mo_alike_41 (fun c41 => ?_) (fun c41 => ?_)
        · refine ev_iload_3 59 d_mo_alike_59 ?_
          refine ev_bipush (9) 60 d_mo_alike_60 (by decide) ?_
          refine ev_icmpne 62 80 d_mo_alike_62 (fun c62 => ?_) (fun c62 => ?_)
          · refine ev_iload_3 80 d_mo_alike_80 ?_
            refine ev_bipush (10) 81 d_mo_alike_81 (by decide) ?_
            refine ev_icmpne 83 101 d_mo_alike_83 (fun c83 => ?_) (fun c83 => ?_)
            · refine ev_iconst_1 101 d_mo_alike_101 ?_
              refine ev_goto 102 106 d_mo_alike_102 ?_
              refine ev_zret 106 d_mo_alike_106 rfl ?_ ?_
              · rfl
              exact ⟨_, _, _, rfl, rfl, by unfold mo_bl mo_al; grind, rfl, rfl⟩
            · refine ev_aload_0 86 d_mo_alike_86 ?_
              refine mo_getr 87 5 7 d_mo_alike_87 lk_25 ?_
              refine ev_iload_1 90 d_mo_alike_90 ?_
              refine mo_ald 91 5 7 d_mo_alike_91 (by first | exact ht | exact hu) ?_
              refine ev_aload_0 92 d_mo_alike_92 ?_
              refine mo_getr 93 5 7 d_mo_alike_93 lk_25 ?_
              refine ev_iload_2 96 d_mo_alike_96 ?_
              refine mo_ald 97 5 7 d_mo_alike_97 (by first | exact ht | exact hu) ?_
              refine ev_icmpgt 98 105 d_mo_alike_98 (fun c98 => ?_) (fun c98 => ?_)
              · refine ev_iconst_0 105 d_mo_alike_105 ?_
                refine ev_zret 106 d_mo_alike_106 rfl ?_ ?_
                · rfl
                exact ⟨_, _, _, rfl, rfl, by unfold mo_bl mo_al; grind, rfl, rfl⟩
              · refine ev_iconst_1 101 d_mo_alike_101 ?_
                refine ev_goto 102 106 d_mo_alike_102 ?_
                refine ev_zret 106 d_mo_alike_106 rfl ?_ ?_
                · rfl
                exact ⟨_, _, _, rfl, rfl, by unfold mo_bl mo_al; grind, rfl, rfl⟩
          · refine ev_aload_0 65 d_mo_alike_65 ?_
            refine mo_getr 66 5 7 d_mo_alike_66 lk_25 ?_
            refine ev_iload_1 69 d_mo_alike_69 ?_
            refine mo_ald 70 5 7 d_mo_alike_70 (by first | exact ht | exact hu) ?_
            refine ev_aload_0 71 d_mo_alike_71 ?_
            refine mo_getr 72 5 7 d_mo_alike_72 lk_25 ?_
            refine ev_iload_2 75 d_mo_alike_75 ?_
            refine mo_ald 76 5 7 d_mo_alike_76 (by first | exact ht | exact hu) ?_
            refine ev_icmplt 77 105 d_mo_alike_77 (fun c77 => ?_) (fun c77 => ?_)
            · refine ev_iconst_0 105 d_mo_alike_105 ?_
              refine ev_zret 106 d_mo_alike_106 rfl ?_ ?_
              · rfl
              exact ⟨_, _, _, rfl, rfl, by unfold mo_bl mo_al; grind, rfl, rfl⟩
            · refine ev_iload_3 80 d_mo_alike_80 ?_
              refine ev_bipush (10) 81 d_mo_alike_81 (by decide) ?_
              refine ev_icmpne 83 101 d_mo_alike_83 (fun c83 => ?_) (fun c83 => ?_)
              · refine ev_iconst_1 101 d_mo_alike_101 ?_
                refine ev_goto 102 106 d_mo_alike_102 ?_
                refine ev_zret 106 d_mo_alike_106 rfl ?_ ?_
                · rfl
                exact ⟨_, _, _, rfl, rfl, by unfold mo_bl mo_al; grind, rfl, rfl⟩
              · refine ev_aload_0 86 d_mo_alike_86 ?_
                refine mo_getr 87 5 7 d_mo_alike_87 lk_25 ?_
                refine ev_iload_1 90 d_mo_alike_90 ?_
                refine mo_ald 91 5 7 d_mo_alike_91 (by first | exact ht | exact hu) ?_
                refine ev_aload_0 92 d_mo_alike_92 ?_
                refine mo_getr 93 5 7 d_mo_alike_93 lk_25 ?_
                refine ev_iload_2 96 d_mo_alike_96 ?_
                refine mo_ald 97 5 7 d_mo_alike_97 (by first | exact ht | exact hu) ?_
                refine ev_icmpgt 98 105 d_mo_alike_98 (fun c98 => ?_) (fun c98 => ?_)
                · refine ev_iconst_0 105 d_mo_alike_105 ?_
                  refine ev_zret 106 d_mo_alike_106 rfl ?_ ?_
                  · rfl
                  exact ⟨_, _, _, rfl, rfl, by unfold mo_bl mo_al; grind, rfl, rfl⟩
                · refine ev_iconst_1 101 d_mo_alike_101 ?_
                  refine ev_goto 102 106 d_mo_alike_102 ?_
                  refine ev_zret 106 d_mo_alike_106 rfl ?_ ?_
                  · rfl
                  exact ⟨_, _, _, rfl, rfl, by unfold mo_bl mo_al; grind, rfl, rfl⟩
        · refine ev_aload_0 44 d_mo_alike_44 ?_
          refine mo_getr 45 1 3 d_mo_alike_45 lk_13 ?_
          refine ev_iload_1 48 d_mo_alike_48 ?_
          refine mo_ald 49 1 3 d_mo_alike_49 (by first | exact ht | exact hu) ?_
          refine ev_aload_0 50 d_mo_alike_50 ?_
          refine mo_getr 51 1 3 d_mo_alike_51 lk_13 ?_
          refine ev_iload_2 54 d_mo_alike_54 ?_
          refine mo_ald 55 1 3 d_mo_alike_55 (by first | exact ht | exact hu) ?_
          refine ev_icmpne 56 105 d_mo_alike_56 (fun c56 => ?_) (fun c56 => ?_)
          · refine ev_iconst_0 105 d_mo_alike_105 ?_
            refine ev_zret 106 d_mo_alike_106 rfl ?_ ?_
            · rfl
            exact ⟨_, _, _, rfl, rfl, by unfold mo_bl mo_al; grind, rfl, rfl⟩
          · refine ev_iload_3 59 d_mo_alike_59 ?_
            refine ev_bipush (9) 60 d_mo_alike_60 (by decide) ?_
            refine ev_icmpne 62 80 d_mo_alike_62 (fun c62 => ?_) (fun c62 => ?_)
            · refine ev_iload_3 80 d_mo_alike_80 ?_
              refine ev_bipush (10) 81 d_mo_alike_81 (by decide) ?_
              refine ev_icmpne 83 101 d_mo_alike_83 (fun c83 => ?_) (fun c83 => ?_)
              · refine ev_iconst_1 101 d_mo_alike_101 ?_
                refine ev_goto 102 106 d_mo_alike_102 ?_
                refine ev_zret 106 d_mo_alike_106 rfl ?_ ?_
                · rfl
                exact ⟨_, _, _, rfl, rfl, by unfold mo_bl mo_al; grind, rfl, rfl⟩
              · refine ev_aload_0 86 d_mo_alike_86 ?_
                refine mo_getr 87 5 7 d_mo_alike_87 lk_25 ?_
                refine ev_iload_1 90 d_mo_alike_90 ?_
                refine mo_ald 91 5 7 d_mo_alike_91 (by first | exact ht | exact hu) ?_
                refine ev_aload_0 92 d_mo_alike_92 ?_
                refine mo_getr 93 5 7 d_mo_alike_93 lk_25 ?_
                refine ev_iload_2 96 d_mo_alike_96 ?_
                refine mo_ald 97 5 7 d_mo_alike_97 (by first | exact ht | exact hu) ?_
                refine ev_icmpgt 98 105 d_mo_alike_98 (fun c98 => ?_) (fun c98 => ?_)
                · refine ev_iconst_0 105 d_mo_alike_105 ?_
                  refine ev_zret 106 d_mo_alike_106 rfl ?_ ?_
                  · rfl
                  exact ⟨_, _, _, rfl, rfl, by unfold mo_bl mo_al; grind, rfl, rfl⟩
                · refine ev_iconst_1 101 d_mo_alike_101 ?_
                  refine ev_goto 102 106 d_mo_alike_102 ?_
                  refine ev_zret 106 d_mo_alike_106 rfl ?_ ?_
                  · rfl
                  exact ⟨_, _, _, rfl, rfl, by unfold mo_bl mo_al; grind, rfl, rfl⟩
            · refine ev_aload_0 65 d_mo_alike_65 ?_
              refine mo_getr 66 5 7 d_mo_alike_66 lk_25 ?_
              refine ev_iload_1 69 d_mo_alike_69 ?_
              refine mo_ald 70 5 7 d_mo_alike_70 (by first | exact ht | exact hu) ?_
              refine ev_aload_0 71 d_mo_alike_71 ?_
              refine mo_getr 72 5 7 d_mo_alike_72 lk_25 ?_
              refine ev_iload_2 75 d_mo_alike_75 ?_
              refine mo_ald 76 5 7 d_mo_alike_76 (by first | exact ht | exact hu) ?_
              refine ev_icmplt 77 105 d_mo_alike_77 (fun c77 => ?_) (fun c77 => ?_)
              · refine ev_iconst_0 105 d_mo_alike_105 ?_
                refine ev_zret 106 d_mo_alike_106 rfl ?_ ?_
                · rfl
                exact ⟨_, _, _, rfl, rfl, by unfold mo_bl mo_al; grind, rfl, rfl⟩
              · refine ev_iload_3 80 d_mo_alike_80 ?_
                refine ev_bipush (10) 81 d_mo_alike_81 (by decide) ?_
                refine ev_icmpne 83 101 d_mo_alike_83 (fun c83 => ?_) (fun c83 => ?_)
                · refine ev_iconst_1 101 d_mo_alike_101 ?_
                  refine ev_goto 102 106 d_mo_alike_102 ?_
                  refine ev_zret 106 d_mo_alike_106 rfl ?_ ?_
                  · rfl
                  exact ⟨_, _, _, rfl, rfl, by unfold mo_bl mo_al; grind, rfl, rfl⟩
                · refine ev_aload_0 86 d_mo_alike_86 ?_
                  refine mo_getr 87 5 7 d_mo_alike_87 lk_25 ?_
                  refine ev_iload_1 90 d_mo_alike_90 ?_
                  refine mo_ald 91 5 7 d_mo_alike_91 (by first | exact ht | exact hu) ?_
                  refine ev_aload_0 92 d_mo_alike_92 ?_
                  refine mo_getr 93 5 7 d_mo_alike_93 lk_25 ?_
                  refine ev_iload_2 96 d_mo_alike_96 ?_
                  refine mo_ald 97 5 7 d_mo_alike_97 (by first | exact ht | exact hu) ?_
                  refine ev_icmpgt 98 105 d_mo_alike_98 (fun c98 => ?_) (fun c98 => ?_)
                  · refine ev_iconst_0 105 d_mo_alike_105 ?_
                    refine ev_zret 106 d_mo_alike_106 rfl ?_ ?_
                    · rfl
                    exact ⟨_, _, _, rfl, rfl, by unfold mo_bl mo_al; grind, rfl, rfl⟩
                  · refine ev_iconst_1 101 d_mo_alike_101 ?_
                    refine ev_goto 102 106 d_mo_alike_102 ?_
                    refine ev_zret 106 d_mo_alike_106 rfl ?_ ?_
                    · rfl
                    exact ⟨_, _, _, rfl, rfl, by unfold mo_bl mo_al; grind, rfl, rfl⟩

set_option maxHeartbeats 4000000 in
set_option maxRecDepth 100000 in
theorem mt_await {l : Launch} {D : va_G} {tl : List (ClassId × FieldType)} {Z : (Nat → Prop) → State → Heap → Prop} {kI kZ : ClassId} {am : Nat → Nat} {F : Nat → Int32} {B : Nat → Nat → Int32} (hZ : ev_Zok Z) (t : Int32) (u : Int32) (mn : Int32) (pl : Int32) (ab : Int32) (i : Int32) (hw : vp_in (F 36) 64) : MT (mo_π l D cl_A kI kZ tl Z) m_await 0 0 [.ref (am 60), .int t, .int u, .int mn, .int pl, .int ab, .int i] (mo_W mo_ci am kI kZ F B) (mo_qv am kI kZ (fun F1 B1 => F1 = upd F 36 (F 36 + 1) ∧ B1 = mo_aw B (F 36).toNatClampNeg t u mn pl ab i)) := by
  refine mt_of mo_pl rfl (Nat.le_of_ble_eq_true rfl) (ev_eq (lv' := [some (.ref (am 60)), some (.int t), some (.int u), some (.int mn), some (.int pl), some (.int ab), some (.int i)]) ?_)
  refine ev_aload_0 0 d_mo_await_0 ?_
  refine mo_getr 1 26 37 d_mo_await_1 lk_93 ?_
  refine ev_aload_0 4 d_mo_await_4 ?_
  refine mo_geti 5 36 d_mo_await_5 lk_181 ?_
  refine ev_iload_1 8 d_mo_await_8 ?_
  refine mo_ast 9 26 37 d_mo_await_9 (by exact hw) ?_
  refine ev_aload_0 10 d_mo_await_10 ?_
  refine mo_getr 11 27 38 d_mo_await_11 lk_96 ?_
  refine ev_aload_0 14 d_mo_await_14 ?_
  refine mo_geti 15 36 d_mo_await_15 lk_181 ?_
  refine ev_iload_2 18 d_mo_await_18 ?_
  refine mo_ast 19 27 38 d_mo_await_19 (by exact hw) ?_
  refine ev_aload_0 20 d_mo_await_20 ?_
  refine mo_getr 21 28 39 d_mo_await_21 lk_99 ?_
  refine ev_aload_0 24 d_mo_await_24 ?_
  refine mo_geti 25 36 d_mo_await_25 lk_181 ?_
  refine ev_iload_3 28 d_mo_await_28 ?_
  refine mo_ast 29 28 39 d_mo_await_29 (by exact hw) ?_
  refine ev_aload_0 30 d_mo_await_30 ?_
  refine mo_getr 31 29 40 d_mo_await_31 lk_102 ?_
  refine ev_aload_0 34 d_mo_await_34 ?_
  refine mo_geti 35 36 d_mo_await_35 lk_181 ?_
  refine ev_iload_4 38 d_mo_await_38 ?_
  refine mo_ast 40 29 40 d_mo_await_40 (by exact hw) ?_
  refine ev_aload_0 41 d_mo_await_41 ?_
  refine mo_getr 42 30 41 d_mo_await_42 lk_105 ?_
  refine ev_aload_0 45 d_mo_await_45 ?_
  refine mo_geti 46 36 d_mo_await_46 lk_181 ?_
  refine ev_iload_5 49 d_mo_await_49 ?_
  refine mo_ast 51 30 41 d_mo_await_51 (by exact hw) ?_
  refine ev_aload_0 52 d_mo_await_52 ?_
  refine mo_getr 53 31 42 d_mo_await_53 lk_108 ?_
  refine ev_aload_0 56 d_mo_await_56 ?_
  refine mo_geti 57 36 d_mo_await_57 lk_181 ?_
  refine ev_iload_6 60 d_mo_await_60 ?_
  refine mo_ast 62 31 42 d_mo_await_62 (by exact hw) ?_
  refine ev_aload_0 63 d_mo_await_63 ?_
  refine ev_dup_a 64 d_mo_await_64 ?_
  refine mo_geti 65 36 d_mo_await_65 lk_181 ?_
  refine ev_iconst_1 68 d_mo_await_68 ?_
  refine ev_iadd 69 d_mo_await_69 ?_
  refine mo_puti 70 36 d_mo_await_70 lp_181 ?_
  refine ev_vret 73 d_mo_await_73 rfl ?_
  exact ⟨_, _, rfl, rfl, rfl, rfl⟩

set_option maxHeartbeats 4000000 in
set_option maxRecDepth 100000 in
theorem mt_fails {l : Launch} {D : va_G} {tl : List (ClassId × FieldType)} {Z : (Nat → Prop) → State → Heap → Prop} {kI kZ : ClassId} {am : Nat → Nat} {F : Nat → Int32} {B : Nat → Nat → Int32} (hZ : ev_Zok Z) (c : Int32) (p : Int32)  : MT (mo_π l D cl_A kI kZ tl Z) m_fails 0 0 [.ref (am 60), .int c, .int p] (mo_W mo_ci am kI kZ F B) (mo_qv am kI kZ (fun F1 B1 => F1 = mo_fl F c p ∧ B1 = B)) := by
  refine mt_of mo_pl rfl (Nat.le_of_ble_eq_true rfl) (ev_eq (lv' := [some (.ref (am 60)), some (.int c), some (.int p)]) ?_)
  refine ev_aload_0 0 d_mo_fails_0 ?_
  refine mo_geti 1 54 d_mo_fails_1 lk_224 ?_
  refine ev_ifne 4 17 d_mo_fails_4 (fun c4 => ?_) (fun c4 => ?_)
  · refine ev_vret 17 d_mo_fails_17 rfl ?_
    exact ⟨_, _, rfl, rfl, by first | rw [mo_fl, if_pos c4] | rw [mo_fl, if_neg c4], rfl⟩
  · refine ev_aload_0 7 d_mo_fails_7 ?_
    refine ev_iload_1 8 d_mo_fails_8 ?_
    refine mo_puti 9 54 d_mo_fails_9 lp_224 ?_
    refine ev_aload_0 12 d_mo_fails_12 ?_
    refine ev_iload_2 13 d_mo_fails_13 ?_
    refine mo_puti 14 55 d_mo_fails_14 lp_227 ?_
    refine ev_vret 17 d_mo_fails_17 rfl ?_
    exact ⟨_, _, rfl, rfl, by first | rw [mo_fl, if_pos c4] | rw [mo_fl, if_neg c4], rfl⟩

set_option maxHeartbeats 4000000 in
set_option maxRecDepth 100000 in
theorem mt_push {l : Launch} {D : va_G} {tl : List (ClassId × FieldType)} {Z : (Nat → Prop) → State → Heap → Prop} {kI kZ : ClassId} {am : Nat → Nat} {F : Nat → Int32} {B : Nat → Nat → Int32} (hZ : ev_Zok Z) (i : Int32) (f : Int32) (p : Int32) (hl : vp_in (F 29) 6) (hi : vp_in i 6) : MT (mo_π l D cl_A kI kZ tl Z) m_push 0 0 [.ref (am 60), .int i, .int f, .int p] (mo_W mo_ci am kI kZ F B) (mo_qv am kI kZ (fun F1 B1 => F1 = upd F 29 (F 29 + 1) ∧ B1 = va_up (va_up (va_up (va_up B 30 (upd (B 30) (F 29).toNatClampNeg i)) 31 (upd (B 31) (F 29).toNatClampNeg f)) 32 (upd (B 32) (F 29).toNatClampNeg p)) 15 (upd (B 15) i.toNatClampNeg 1))) := by
  refine mt_of mo_pl rfl (Nat.le_of_ble_eq_true rfl) (ev_eq (lv' := [some (.ref (am 60)), some (.int i), some (.int f), some (.int p)]) ?_)
  refine ev_aload_0 0 d_mo_push_0 ?_
  refine mo_getr 1 23 30 d_mo_push_1 lk_80 ?_
  refine ev_aload_0 4 d_mo_push_4 ?_
  refine mo_geti 5 29 d_mo_push_5 lk_208 ?_
  refine ev_iload_1 8 d_mo_push_8 ?_
  refine mo_ast 9 23 30 d_mo_push_9 (by first | exact hl | exact hi) ?_
  refine ev_aload_0 10 d_mo_push_10 ?_
  refine mo_getr 11 24 31 d_mo_push_11 lk_83 ?_
  refine ev_aload_0 14 d_mo_push_14 ?_
  refine mo_geti 15 29 d_mo_push_15 lk_208 ?_
  refine ev_iload_2 18 d_mo_push_18 ?_
  refine mo_ast 19 24 31 d_mo_push_19 (by first | exact hl | exact hi) ?_
  refine ev_aload_0 20 d_mo_push_20 ?_
  refine mo_getr 21 25 32 d_mo_push_21 lk_86 ?_
  refine ev_aload_0 24 d_mo_push_24 ?_
  refine mo_geti 25 29 d_mo_push_25 lk_208 ?_
  refine ev_iload_3 28 d_mo_push_28 ?_
  refine mo_ast 29 25 32 d_mo_push_29 (by first | exact hl | exact hi) ?_
  refine ev_aload_0 30 d_mo_push_30 ?_
  refine ev_dup_a 31 d_mo_push_31 ?_
  refine mo_geti 32 29 d_mo_push_32 lk_208 ?_
  refine ev_iconst_1 35 d_mo_push_35 ?_
  refine ev_iadd 36 d_mo_push_36 ?_
  refine mo_puti 37 29 d_mo_push_37 lp_208 ?_
  refine ev_aload_0 40 d_mo_push_40 ?_
  refine mo_getr 41 11 15 d_mo_push_41 lk_43 ?_
  refine ev_iload_1 44 d_mo_push_44 ?_
  refine ev_iconst_1 45 d_mo_push_45 ?_
  refine mo_ast 46 11 15 d_mo_push_46 (by first | exact hl | exact hi) ?_
  refine ev_vret 47 d_mo_push_47 rfl ?_
  exact ⟨_, _, rfl, rfl, rfl, rfl⟩

set_option maxHeartbeats 4000000 in
set_option maxRecDepth 100000 in
theorem mt_passed {l : Launch} {D : va_G} {tl : List (ClassId × FieldType)} {Z : (Nat → Prop) → State → Heap → Prop} {kI kZ : ClassId} {am : Nat → Nat} {F : Nat → Int32} {B : Nat → Nat → Int32} (hZ : ev_Zok Z) (hl : ¬ F 29 = 0 → vp_in (F 29 - 1) 6) : MT (mo_π l D cl_A kI kZ tl Z) m_passed 0 0 [.ref (am 60)] (mo_W mo_ci am kI kZ F B) (mo_qi am kI kZ (fun x F1 B1 => x = (if F 29 = 0 then -1 else B 32 (F 29 - 1).toNatClampNeg) ∧ F1 = upd F 0 0 ∧ B1 = B)) := by
  refine mt_of mo_pl rfl (Nat.le_of_ble_eq_true rfl) (ev_eq (lv' := [some (.ref (am 60))]) ?_)
  refine ev_aload_0 0 d_mo_passed_0 ?_
  refine ev_iconst_0 1 d_mo_passed_1 ?_
  refine mo_puti 2 0 d_mo_passed_2 lp_141 ?_
  refine ev_aload_0 5 d_mo_passed_5 ?_
  refine mo_geti 6 29 d_mo_passed_6 lk_208 ?_
  refine ev_ifne 9 16 d_mo_passed_9 (fun c9 => ?_) (fun c9 => ?_)
  · refine ev_aload_0 16 d_mo_passed_16 ?_
    refine mo_getr 17 25 32 d_mo_passed_17 lk_86 ?_
    refine ev_aload_0 20 d_mo_passed_20 ?_
    refine mo_geti 21 29 d_mo_passed_21 lk_208 ?_
    refine ev_iconst_1 24 d_mo_passed_24 ?_
    refine ev_isub 25 d_mo_passed_25 ?_
    refine mo_ald 26 25 32 d_mo_passed_26 (by exact hl c9) ?_
    refine ev_iret 27 d_mo_passed_27 rfl ?_
    exact ⟨_, _, _, rfl, rfl, by first | exact (if_pos c9).symm | exact (if_neg c9).symm, rfl, rfl⟩
  · refine ev_iconst_m1 12 d_mo_passed_12 ?_
    refine ev_goto 13 27 d_mo_passed_13 ?_
    refine ev_iret 27 d_mo_passed_27 rfl ?_
    exact ⟨_, _, _, rfl, rfl, by first | exact (if_pos c9).symm | exact (if_neg c9).symm, rfl, rfl⟩

set_option maxHeartbeats 4000000 in
set_option maxRecDepth 100000 in
theorem mt_depth {l : Launch} {D : va_G} {tl : List (ClassId × FieldType)} {Z : (Nat → Prop) → State → Heap → Prop} {kI kZ : ClassId} {am : Nat → Nat} {F : Nat → Int32} {B : Nat → Nat → Int32} (hZ : ev_Zok Z)  : MT (mo_π l D cl_A kI kZ tl Z) m_depth 0 0 [.ref (am 60)] (mo_W mo_ci am kI kZ F B) (mo_qi am kI kZ (fun x F1 B1 => x = F 29 ∧ F1 = upd F 0 0 ∧ B1 = B)) := by
  refine mt_of mo_pl rfl (Nat.le_of_ble_eq_true rfl) (ev_eq (lv' := [some (.ref (am 60))]) ?_)
  refine ev_aload_0 0 d_mo_depth_0 ?_
  refine ev_iconst_0 1 d_mo_depth_1 ?_
  refine mo_puti 2 0 d_mo_depth_2 lp_141 ?_
  refine ev_aload_0 5 d_mo_depth_5 ?_
  refine mo_geti 6 29 d_mo_depth_6 lk_208 ?_
  refine ev_iret 9 d_mo_depth_9 rfl ?_
  exact ⟨_, _, _, rfl, rfl, rfl, rfl, rfl⟩

set_option maxHeartbeats 4000000 in
set_option maxRecDepth 100000 in
theorem mt_level {l : Launch} {D : va_G} {tl : List (ClassId × FieldType)} {Z : (Nat → Prop) → State → Heap → Prop} {kI kZ : ClassId} {am : Nat → Nat} {F : Nat → Int32} {B : Nat → Nat → Int32} (hZ : ev_Zok Z) (k : Int32) (hb : ¬ k < 0 → ¬ F 29 ≤ k → vp_in k 6) : MT (mo_π l D cl_A kI kZ tl Z) m_level 0 0 [.ref (am 60), .int k] (mo_W mo_ci am kI kZ F B) (mo_qi am kI kZ (fun x F1 B1 => x = (if k < 0 ∨ F 29 ≤ k then -1 else B 30 k.toNatClampNeg) ∧ F1 = upd F 0 0 ∧ B1 = B)) := by
  refine mt_of mo_pl rfl (Nat.le_of_ble_eq_true rfl) (ev_eq (lv' := [some (.ref (am 60)), some (.int k)]) ?_)
  refine ev_aload_0 0 d_mo_level_0 ?_
  refine ev_iconst_0 1 d_mo_level_1 ?_
  refine mo_puti 2 0 d_mo_level_2 lp_141 ?_
  refine ev_iload_1 5 d_mo_level_5 ?_
  refine ev_iflt 6 26 d_mo_level_6 (fun c6 => ?_) (fun c6 => ?_)
  · refine ev_iconst_m1 26 d_mo_level_26 ?_
    refine ev_iret 27 d_mo_level_27 rfl ?_
    exact ⟨_, _, _, rfl, rfl, by first | exact (if_pos (Or.inl c6)).symm | exact (if_pos (Or.inr c14)).symm | exact (if_neg (fun z => z.elim c6 c14)).symm, rfl, rfl⟩
  · refine ev_iload_1 9 d_mo_level_9 ?_
    refine ev_aload_0 10 d_mo_level_10 ?_
    refine mo_geti 11 29 d_mo_level_11 lk_208 ?_
    refine ev_icmpge 14 26 d_mo_level_14 (fun c14 => ?_) (fun c14 => ?_)
    · refine ev_iconst_m1 26 d_mo_level_26 ?_
      refine ev_iret 27 d_mo_level_27 rfl ?_
      exact ⟨_, _, _, rfl, rfl, by first | exact (if_pos (Or.inl c6)).symm | exact (if_pos (Or.inr c14)).symm | exact (if_neg (fun z => z.elim c6 c14)).symm, rfl, rfl⟩
    · refine ev_aload_0 17 d_mo_level_17 ?_
      refine mo_getr 18 23 30 d_mo_level_18 lk_80 ?_
      refine ev_iload_1 21 d_mo_level_21 ?_
      refine mo_ald 22 23 30 d_mo_level_22 (by exact hb c6 c14) ?_
      refine ev_goto 23 27 d_mo_level_23 ?_
      refine ev_iret 27 d_mo_level_27 rfl ?_
      exact ⟨_, _, _, rfl, rfl, by first | exact (if_pos (Or.inl c6)).symm | exact (if_pos (Or.inr c14)).symm | exact (if_neg (fun z => z.elim c6 c14)).symm, rfl, rfl⟩

set_option maxHeartbeats 4000000 in
set_option maxRecDepth 100000 in
theorem mt_byteAt {l : Launch} {D : va_G} {tl : List (ClassId × FieldType)} {Z : (Nat → Prop) → State → Heap → Prop} {kI kZ : ClassId} {am : Nat → Nat} {F : Nat → Int32} {B : Nat → Nat → Int32} (hZ : ev_Zok Z) (i : Int32) (p : Int32) (hb : ¬ p < 0 → ¬ 255 < p → vp_in (256 * i + p) 1536) : MT (mo_π l D cl_A kI kZ tl Z) m_byteAt 0 0 [.ref (am 60), .int i, .int p] (mo_W mo_ci am kI kZ F B) (mo_qi am kI kZ (fun x F1 B1 => ((0 < F 54 ∧ x = 0 ∧ F1 = F) ∨ (¬ 0 < F 54 ∧ (p < 0 ∨ 255 < p) ∧ x = 0 ∧ F1 = mo_fl F 1 p) ∨ (¬ 0 < F 54 ∧ ¬ p < 0 ∧ ¬ 255 < p ∧ x = B 13 (256 * i + p).toNatClampNeg ∧ F1 = F)) ∧ B1 = B)) := by
  refine mt_of mo_pl rfl (Nat.le_of_ble_eq_true rfl) (ev_eq (lv' := [some (.ref (am 60)), some (.int i), some (.int p)]) ?_)
  refine ev_aload_0 0 d_mo_byteAt_0 ?_
  refine mo_geti 1 54 d_mo_byteAt_1 lk_224 ?_
  refine ev_ifle 4 9 d_mo_byteAt_4 (fun c4 => ?_) (fun c4 => ?_)
  · refine ev_iload_2 9 d_mo_byteAt_9 ?_
    refine ev_iflt 10 20 d_mo_byteAt_10 (fun c10 => ?_) (fun c10 => ?_)
    · refine ev_aload_0 20 d_mo_byteAt_20 ?_
      refine ev_iconst_1 21 d_mo_byteAt_21 ?_
      refine ev_iload_2 22 d_mo_byteAt_22 ?_
      refine mo_callv2 23 d_mo_byteAt_23 hZ kc_230 (mt_fails hZ 1 p) (fun F1 B1 h => ?_)
      obtain ⟨rfl, rfl⟩ := h
      refine ev_iconst_0 26 d_mo_byteAt_26 ?_
      refine ev_iret 27 d_mo_byteAt_27 rfl ?_
      exact ⟨_, _, _, rfl, rfl, Or.inr (Or.inl ⟨Int32.not_lt.mpr c4, by first | exact Or.inl c10 | exact Or.inr (Int32.not_le.mp c17), rfl, rfl⟩), rfl⟩
    · refine ev_iload_2 13 d_mo_byteAt_13 ?_
      refine ev_sipush (255) 14 d_mo_byteAt_14 (by decide) ?_
      refine ev_icmple 17 28 d_mo_byteAt_17 (fun c17 => ?_) (fun c17 => ?_)
      · refine ev_aload_0 28 d_mo_byteAt_28 ?_
        refine mo_getr 29 9 13 d_mo_byteAt_29 lk_37 ?_
        refine ev_sipush (256) 32 d_mo_byteAt_32 (by decide) ?_
        refine ev_iload_1 35 d_mo_byteAt_35 ?_
        refine ev_imul 36 d_mo_byteAt_36 ?_
        refine ev_iload_2 37 d_mo_byteAt_37 ?_
        refine ev_iadd 38 d_mo_byteAt_38 ?_
        refine mo_ald 39 9 13 d_mo_byteAt_39 (by exact hb c10 (Int32.not_lt.mpr c17)) ?_
        refine ev_iret 40 d_mo_byteAt_40 rfl ?_
        exact ⟨_, _, _, rfl, rfl, Or.inr (Or.inr ⟨Int32.not_lt.mpr c4, c10, Int32.not_lt.mpr c17, rfl, rfl⟩), rfl⟩
      · refine ev_aload_0 20 d_mo_byteAt_20 ?_
        refine ev_iconst_1 21 d_mo_byteAt_21 ?_
        refine ev_iload_2 22 d_mo_byteAt_22 ?_
        refine mo_callv2 23 d_mo_byteAt_23 hZ kc_230 (mt_fails hZ 1 p) (fun F1 B1 h => ?_)
        obtain ⟨rfl, rfl⟩ := h
        refine ev_iconst_0 26 d_mo_byteAt_26 ?_
        refine ev_iret 27 d_mo_byteAt_27 rfl ?_
        exact ⟨_, _, _, rfl, rfl, Or.inr (Or.inl ⟨Int32.not_lt.mpr c4, by first | exact Or.inl c10 | exact Or.inr (Int32.not_le.mp c17), rfl, rfl⟩), rfl⟩
  · refine ev_iconst_0 7 d_mo_byteAt_7 ?_
    refine ev_iret 8 d_mo_byteAt_8 rfl ?_
    exact ⟨_, _, _, rfl, rfl, Or.inl ⟨Int32.not_le.mp c4, rfl, rfl⟩, rfl⟩
end
section
/-! small rows: numbers by their Nats; loads and stores at a place that is a Nat -/
theorem n_lt (a b : Nat) {x y : Int32} (h : x < y) (hx : x = nI a := by rfl) (hy : y = nI b := by rfl) (ha : a < 2147483648 := by omega) (hb : b < 2147483648 := by omega) : a < b := by
  subst hx; subst hy; exact (nI_ltI ha hb).mp h
theorem n_nlt (a b : Nat) {x y : Int32} (h : ¬ x < y) (hx : x = nI a := by rfl) (hy : y = nI b := by rfl) (ha : a < 2147483648 := by omega) (hb : b < 2147483648 := by omega) : b ≤ a := by
  subst hx; subst hy; exact Nat.not_lt.mp (fun z => h ((nI_ltI ha hb).mpr z))
theorem n_le (a b : Nat) {x y : Int32} (h : x ≤ y) (hx : x = nI a := by rfl) (hy : y = nI b := by rfl) (ha : a < 2147483648 := by omega) (hb : b < 2147483648 := by omega) : a ≤ b := by
  subst hx; subst hy; exact (nI_leI ha hb).mp h
theorem n_nle (a b : Nat) {x y : Int32} (h : ¬ x ≤ y) (hx : x = nI a := by rfl) (hy : y = nI b := by rfl) (ha : a < 2147483648 := by omega) (hb : b < 2147483648 := by omega) : b < a := by
  subst hx; subst hy; exact Nat.not_le.mp (fun z => h ((nI_leI ha hb).mpr z))
theorem n_eq (a b : Nat) {x y : Int32} (h : x = y) (hx : x = nI a := by rfl) (hy : y = nI b := by rfl) (ha : a < 2147483648 := by omega) (hb : b < 2147483648 := by omega) : a = b := by
  subst hx; subst hy; exact (nI_eq ha hb).mp h
theorem n_ne (a b : Nat) {x y : Int32} (h : ¬ x = y) (hx : x = nI a := by rfl) (hy : y = nI b := by rfl) : a ≠ b := by
  subst hx; subst hy; exact fun z => h (by rw [z])
theorem n_1 : (1 : Int32) = nI 1 := rfl
theorem n_6 : (6 : Int32) = nI 6 := rfl
theorem n_16 : (16 : Int32) = nI 16 := rfl
theorem n_17 : (17 : Int32) = nI 17 := rfl
theorem n_102 : (102 : Int32) = nI 102 := rfl
theorem n_256 : (256 : Int32) = nI 256 := rfl
theorem n_i1 {a : Nat} : nI a + Int32.ofInt 1 = nI (a + 1) := nI_1 a
theorem n_d1 {a : Nat} (h : 0 < a) : nI a + Int32.ofInt (-1) = nI (a - 1) := by
  obtain ⟨b, rfl⟩ : ∃ b, a = b + 1 := ⟨a - 1, by omega⟩
  exact pk_m1 b
section MO2
variable {π : ev_P} {μ : ev_M} {E : ev_T} {cells slots : Nat} {lv : List (Option Value)} {st : List Value} {ws : va_W}
theorem ev_topi {x : Int32} {pc : Nat} (y : Int32) (h : x = y) (k : EV π μ E cells slots pc lv (.int y :: st) ws) : EV π μ E cells slots pc lv (.int x :: st) ws := by
  subst h; exact k
theorem ev_sndi {x v : Int32} {pc : Nat} (y : Int32) (h : x = y) (k : EV π μ E cells slots pc lv (.int v :: .int y :: st) ws) : EV π μ E cells slots pc lv (.int v :: .int x :: st) ws := by
  subst h; exact k
end MO2
section MO3
variable {l : Launch} {D : va_G} {cl : List vw_C} {tl : List (ClassId × FieldType)} {Z : (Nat → Prop) → State → Heap → Prop} {ci : Nat} {kI kZ : ClassId} {am : Nat → Nat} {F : Nat → Int32} {B : Nat → Nat → Int32} {μ : ev_M} {E : ev_T} {cells slots : Nat} {lv : List (Option Value)} {st : List Value}
theorem mo_len_lt (k : Nat) : mo_len k < 2147483648 := by
  unfold mo_len; split <;> decide
theorem mo_aldn {j : Nat} (pc n k : Nat) (d : decode μ.2.1 pc = .ok (.iaload, 1)) (hin : j < mo_len k)
    (kk : EV (mo_π l D cl kI kZ tl Z) μ E cells slots (pc + 1) lv (.int (B k j) :: st) (mo_W ci am kI kZ F B)) (hk : mo_R[n]? = some k := by rfl) (hz : mo_Zs.contains k = false := by rfl) : EV (mo_π l D cl kI kZ tl Z) μ E cells slots pc lv (.int (nI j) :: .ref (am k) :: st) (mo_W ci am kI kZ F B) := by
  refine mo_ald pc n k d (vp_in_nI hin (mo_len_lt k)) ?_ hk hz
  rw [nI_clamp (Nat.lt_trans hin (mo_len_lt k))]
  exact kk
theorem mo_zldn {j : Nat} (pc n k : Nat) (d : decode μ.2.1 pc = .ok (.baload, 1)) (hin : j < mo_len k)
    (kk : EV (mo_π l D cl kI kZ tl Z) μ E cells slots (pc + 1) lv (.int (B k j) :: st) (mo_W ci am kI kZ F B)) (hk : mo_R[n]? = some k := by rfl) (hz : mo_Zs.contains k = true := by rfl) : EV (mo_π l D cl kI kZ tl Z) μ E cells slots pc lv (.int (nI j) :: .ref (am k) :: st) (mo_W ci am kI kZ F B) := by
  refine mo_zld pc n k d (vp_in_nI hin (mo_len_lt k)) ?_ hk hz
  rw [nI_clamp (Nat.lt_trans hin (mo_len_lt k))]
  exact kk
theorem mo_astn {j : Nat} {x : Int32} (pc n k : Nat) (d : decode μ.2.1 pc = .ok (.iastore, 1)) (hin : j < mo_len k)
    (kk : EV (mo_π l D cl kI kZ tl Z) μ E cells slots (pc + 1) lv st (mo_W ci am kI kZ F (va_up B k (upd (B k) j x)))) (hk : mo_R[n]? = some k := by rfl) (hz : mo_Zs.contains k = false := by rfl) : EV (mo_π l D cl kI kZ tl Z) μ E cells slots pc lv (.int x :: .int (nI j) :: .ref (am k) :: st) (mo_W ci am kI kZ F B) := by
  refine mo_ast pc n k d (vp_in_nI hin (mo_len_lt k)) ?_ hk hz
  rw [nI_clamp (Nat.lt_trans hin (mo_len_lt k))]
  exact kk
/-- a yes or no is stored: x is 0 or 1 -/
theorem mo_zstn {j : Nat} {x : Int32} (pc n k : Nat) (d : decode μ.2.1 pc = .ok (.bastore, 1)) (hin : j < mo_len k) (hx : x = 0 ∨ x = 1)
    (kk : EV (mo_π l D cl kI kZ tl Z) μ E cells slots (pc + 1) lv st (mo_W ci am kI kZ F (va_up B k (upd (B k) j x)))) (hk : mo_R[n]? = some k := by rfl) (hz : mo_Zs.contains k = true := by rfl) : EV (mo_π l D cl kI kZ tl Z) μ E cells slots pc lv (.int x :: .int (nI j) :: .ref (am k) :: st) (mo_W ci am kI kZ F B) := by
  refine mo_zst pc n k d (vp_in_nI hin (mo_len_lt k)) ?_ hk hz
  rw [nI_clamp (Nat.lt_trans hin (mo_len_lt k)), show vp_nar .boolean x = x by rcases hx with rfl | rfl <;> rfl]
  exact kk
end MO3
end
section
theorem d_mo_freeHandle_0 : decode c_mo_freeHandle 0 = .ok (.iconst 0, 1) := by decide +kernel
theorem d_mo_freeHandle_1 : decode c_mo_freeHandle 1 = .ok (.istore_n 2, 1) := by decide +kernel
theorem d_mo_freeHandle_2 : decode c_mo_freeHandle 2 = .ok (.bipush 16, 2) := by decide +kernel
theorem d_mo_freeHandle_4 : decode c_mo_freeHandle 4 = .ok (.istore_n 3, 1) := by decide +kernel
theorem d_mo_freeHandle_5 : decode c_mo_freeHandle 5 = .ok (.iload_n 3, 1) := by decide +kernel
theorem d_mo_freeHandle_6 : decode c_mo_freeHandle 6 = .ok (.iconst 1, 1) := by decide +kernel
theorem d_mo_freeHandle_7 : decode c_mo_freeHandle 7 = .ok (.if_icmp .lt 29, 3) := by decide +kernel
theorem d_mo_freeHandle_10 : decode c_mo_freeHandle 10 = .ok (.aload_n 0, 1) := by decide +kernel
theorem d_mo_freeHandle_11 : decode c_mo_freeHandle 11 = .ok (.getfield 46, 3) := by decide +kernel
theorem d_mo_freeHandle_14 : decode c_mo_freeHandle 14 = .ok (.bipush 17, 2) := by decide +kernel
theorem d_mo_freeHandle_16 : decode c_mo_freeHandle 16 = .ok (.iload_n 1, 1) := by decide +kernel
theorem d_mo_freeHandle_17 : decode c_mo_freeHandle 17 = .ok (.imul, 1) := by decide +kernel
theorem d_mo_freeHandle_18 : decode c_mo_freeHandle 18 = .ok (.iload_n 3, 1) := by decide +kernel
theorem d_mo_freeHandle_19 : decode c_mo_freeHandle 19 = .ok (.iadd, 1) := by decide +kernel
theorem d_mo_freeHandle_20 : decode c_mo_freeHandle 20 = .ok (.baload, 1) := by decide +kernel
theorem d_mo_freeHandle_21 : decode c_mo_freeHandle 21 = .ok (.ifCond .eq 7, 3) := by decide +kernel
theorem d_mo_freeHandle_24 : decode c_mo_freeHandle 24 = .ok (.iload_n 2, 1) := by decide +kernel
theorem d_mo_freeHandle_25 : decode c_mo_freeHandle 25 = .ok (.goto 4, 3) := by decide +kernel
theorem d_mo_freeHandle_28 : decode c_mo_freeHandle 28 = .ok (.iload_n 3, 1) := by decide +kernel
theorem d_mo_freeHandle_29 : decode c_mo_freeHandle 29 = .ok (.istore_n 2, 1) := by decide +kernel
theorem d_mo_freeHandle_30 : decode c_mo_freeHandle 30 = .ok (.iinc 3 (-1), 3) := by decide +kernel
theorem d_mo_freeHandle_33 : decode c_mo_freeHandle 33 = .ok (.goto (-28), 3) := by decide +kernel
theorem d_mo_freeHandle_36 : decode c_mo_freeHandle 36 = .ok (.iload_n 2, 1) := by decide +kernel
theorem d_mo_freeHandle_37 : decode c_mo_freeHandle 37 = .ok (.ireturn, 1) := by decide +kernel
theorem d_mo_loans_0 : decode c_mo_loans 0 = .ok (.aload_n 0, 1) := by decide +kernel
theorem d_mo_loans_1 : decode c_mo_loans 1 = .ok (.getfield 62, 3) := by decide +kernel
theorem d_mo_loans_4 : decode c_mo_loans 4 = .ok (.iload_n 1, 1) := by decide +kernel
theorem d_mo_loans_5 : decode c_mo_loans 5 = .ok (.iaload, 1) := by decide +kernel
theorem d_mo_loans_6 : decode c_mo_loans 6 = .ok (.istore_n 2, 1) := by decide +kernel
theorem d_mo_loans_7 : decode c_mo_loans 7 = .ok (.iconst 0, 1) := by decide +kernel
theorem d_mo_loans_8 : decode c_mo_loans 8 = .ok (.istore_n 3, 1) := by decide +kernel
theorem d_mo_loans_9 : decode c_mo_loans 9 = .ok (.iload_n 3, 1) := by decide +kernel
theorem d_mo_loans_10 : decode c_mo_loans 10 = .ok (.bipush 102, 2) := by decide +kernel
theorem d_mo_loans_12 : decode c_mo_loans 12 = .ok (.if_icmp .ge 45, 3) := by decide +kernel
theorem d_mo_loans_15 : decode c_mo_loans 15 = .ok (.aload_n 0, 1) := by decide +kernel
theorem d_mo_loans_16 : decode c_mo_loans 16 = .ok (.getfield 46, 3) := by decide +kernel
theorem d_mo_loans_19 : decode c_mo_loans 19 = .ok (.iload_n 3, 1) := by decide +kernel
theorem d_mo_loans_20 : decode c_mo_loans 20 = .ok (.baload, 1) := by decide +kernel
theorem d_mo_loans_21 : decode c_mo_loans 21 = .ok (.ifCond .eq 28, 3) := by decide +kernel
theorem d_mo_loans_24 : decode c_mo_loans 24 = .ok (.aload_n 0, 1) := by decide +kernel
theorem d_mo_loans_25 : decode c_mo_loans 25 = .ok (.getfield 53, 3) := by decide +kernel
theorem d_mo_loans_28 : decode c_mo_loans 28 = .ok (.iload_n 3, 1) := by decide +kernel
theorem d_mo_loans_29 : decode c_mo_loans 29 = .ok (.baload, 1) := by decide +kernel
theorem d_mo_loans_30 : decode c_mo_loans 30 = .ok (.ifCond .ne 19, 3) := by decide +kernel
theorem d_mo_loans_33 : decode c_mo_loans 33 = .ok (.aload_n 0, 1) := by decide +kernel
theorem d_mo_loans_34 : decode c_mo_loans 34 = .ok (.getfield 56, 3) := by decide +kernel
theorem d_mo_loans_37 : decode c_mo_loans 37 = .ok (.iload_n 3, 1) := by decide +kernel
theorem d_mo_loans_38 : decode c_mo_loans 38 = .ok (.iaload, 1) := by decide +kernel
theorem d_mo_loans_39 : decode c_mo_loans 39 = .ok (.iload_n 1, 1) := by decide +kernel
theorem d_mo_loans_40 : decode c_mo_loans 40 = .ok (.if_icmp .ne 9, 3) := by decide +kernel
theorem d_mo_loans_43 : decode c_mo_loans 43 = .ok (.iload_n 2, 1) := by decide +kernel
theorem d_mo_loans_44 : decode c_mo_loans 44 = .ok (.iconst 1, 1) := by decide +kernel
theorem d_mo_loans_45 : decode c_mo_loans 45 = .ok (.iadd, 1) := by decide +kernel
theorem d_mo_loans_46 : decode c_mo_loans 46 = .ok (.goto 4, 3) := by decide +kernel
theorem d_mo_loans_49 : decode c_mo_loans 49 = .ok (.iload_n 2, 1) := by decide +kernel
theorem d_mo_loans_50 : decode c_mo_loans 50 = .ok (.istore_n 2, 1) := by decide +kernel
theorem d_mo_loans_51 : decode c_mo_loans 51 = .ok (.iinc 3 1, 3) := by decide +kernel
theorem d_mo_loans_54 : decode c_mo_loans 54 = .ok (.goto (-45), 3) := by decide +kernel
theorem d_mo_loans_57 : decode c_mo_loans 57 = .ok (.iload_n 2, 1) := by decide +kernel
theorem d_mo_loans_58 : decode c_mo_loans 58 = .ok (.ireturn, 1) := by decide +kernel
theorem d_mo_inUse_0 : decode c_mo_inUse 0 = .ok (.iconst 0, 1) := by decide +kernel
theorem d_mo_inUse_1 : decode c_mo_inUse 1 = .ok (.istore_n 2, 1) := by decide +kernel
theorem d_mo_inUse_2 : decode c_mo_inUse 2 = .ok (.iconst 1, 1) := by decide +kernel
theorem d_mo_inUse_3 : decode c_mo_inUse 3 = .ok (.istore_n 3, 1) := by decide +kernel
theorem d_mo_inUse_4 : decode c_mo_inUse 4 = .ok (.iload_n 3, 1) := by decide +kernel
theorem d_mo_inUse_5 : decode c_mo_inUse 5 = .ok (.bipush 16, 2) := by decide +kernel
theorem d_mo_inUse_7 : decode c_mo_inUse 7 = .ok (.if_icmp .gt 31, 3) := by decide +kernel
theorem d_mo_inUse_10 : decode c_mo_inUse 10 = .ok (.aload_n 0, 1) := by decide +kernel
theorem d_mo_inUse_11 : decode c_mo_inUse 11 = .ok (.getfield 46, 3) := by decide +kernel
theorem d_mo_inUse_14 : decode c_mo_inUse 14 = .ok (.bipush 17, 2) := by decide +kernel
theorem d_mo_inUse_16 : decode c_mo_inUse 16 = .ok (.iload_n 1, 1) := by decide +kernel
theorem d_mo_inUse_17 : decode c_mo_inUse 17 = .ok (.imul, 1) := by decide +kernel
theorem d_mo_inUse_18 : decode c_mo_inUse 18 = .ok (.iload_n 3, 1) := by decide +kernel
theorem d_mo_inUse_19 : decode c_mo_inUse 19 = .ok (.iadd, 1) := by decide +kernel
theorem d_mo_inUse_20 : decode c_mo_inUse 20 = .ok (.baload, 1) := by decide +kernel
theorem d_mo_inUse_21 : decode c_mo_inUse 21 = .ok (.ifCond .eq 9, 3) := by decide +kernel
theorem d_mo_inUse_24 : decode c_mo_inUse 24 = .ok (.iload_n 2, 1) := by decide +kernel
theorem d_mo_inUse_25 : decode c_mo_inUse 25 = .ok (.iconst 1, 1) := by decide +kernel
theorem d_mo_inUse_26 : decode c_mo_inUse 26 = .ok (.iadd, 1) := by decide +kernel
theorem d_mo_inUse_27 : decode c_mo_inUse 27 = .ok (.goto 4, 3) := by decide +kernel
theorem d_mo_inUse_30 : decode c_mo_inUse 30 = .ok (.iload_n 2, 1) := by decide +kernel
theorem d_mo_inUse_31 : decode c_mo_inUse 31 = .ok (.istore_n 2, 1) := by decide +kernel
theorem d_mo_inUse_32 : decode c_mo_inUse 32 = .ok (.iinc 3 1, 3) := by decide +kernel
theorem d_mo_inUse_35 : decode c_mo_inUse 35 = .ok (.goto (-31), 3) := by decide +kernel
theorem d_mo_inUse_38 : decode c_mo_inUse 38 = .ok (.iload_n 2, 1) := by decide +kernel
theorem d_mo_inUse_39 : decode c_mo_inUse 39 = .ok (.ireturn, 1) := by decide +kernel
theorem d_mo_part_0 : decode c_mo_part 0 = .ok (.aload_n 0, 1) := by decide +kernel
theorem d_mo_part_1 : decode c_mo_part 1 = .ok (.aload_n 0, 1) := by decide +kernel
theorem d_mo_part_2 : decode c_mo_part 2 = .ok (.iload_n 1, 1) := by decide +kernel
theorem d_mo_part_3 : decode c_mo_part 3 = .ok (.invokevirtual 150, 3) := by decide +kernel
theorem d_mo_part_6 : decode c_mo_part 6 = .ok (.ifCond .ne 7, 3) := by decide +kernel
theorem d_mo_part_9 : decode c_mo_part 9 = .ok (.iconst 1, 1) := by decide +kernel
theorem d_mo_part_10 : decode c_mo_part 10 = .ok (.goto 17, 3) := by decide +kernel
theorem d_mo_part_13 : decode c_mo_part 13 = .ok (.aload_n 0, 1) := by decide +kernel
theorem d_mo_part_14 : decode c_mo_part 14 = .ok (.getfield 154, 3) := by decide +kernel
theorem d_mo_part_17 : decode c_mo_part 17 = .ok (.bipush 6, 2) := by decide +kernel
theorem d_mo_part_19 : decode c_mo_part 19 = .ok (.if_icmp .ne 7, 3) := by decide +kernel
theorem d_mo_part_22 : decode c_mo_part 22 = .ok (.iconst 2, 1) := by decide +kernel
theorem d_mo_part_23 : decode c_mo_part 23 = .ok (.goto 4, 3) := by decide +kernel
theorem d_mo_part_26 : decode c_mo_part 26 = .ok (.iconst 0, 1) := by decide +kernel
theorem d_mo_part_27 : decode c_mo_part 27 = .ok (.invokevirtual 157, 3) := by decide +kernel
theorem d_mo_part_30 : decode c_mo_part 30 = .ok (.ifCond .eq 5, 3) := by decide +kernel
theorem d_mo_part_33 : decode c_mo_part 33 = .ok (.iconst 0, 1) := by decide +kernel
theorem d_mo_part_34 : decode c_mo_part 34 = .ok (.ireturn, 1) := by decide +kernel
theorem d_mo_part_35 : decode c_mo_part 35 = .ok (.aload_n 0, 1) := by decide +kernel
theorem d_mo_part_36 : decode c_mo_part 36 = .ok (.getfield 34, 3) := by decide +kernel
theorem d_mo_part_39 : decode c_mo_part 39 = .ok (.aload_n 0, 1) := by decide +kernel
theorem d_mo_part_40 : decode c_mo_part 40 = .ok (.getfield 154, 3) := by decide +kernel
theorem d_mo_part_43 : decode c_mo_part 43 = .ok (.iload_n 1, 1) := by decide +kernel
theorem d_mo_part_44 : decode c_mo_part 44 = .ok (.iastore, 1) := by decide +kernel
theorem d_mo_part_45 : decode c_mo_part 45 = .ok (.aload_n 0, 1) := by decide +kernel
theorem d_mo_part_46 : decode c_mo_part 46 = .ok (.dup, 1) := by decide +kernel
theorem d_mo_part_47 : decode c_mo_part 47 = .ok (.getfield 154, 3) := by decide +kernel
theorem d_mo_part_50 : decode c_mo_part 50 = .ok (.iconst 1, 1) := by decide +kernel
theorem d_mo_part_51 : decode c_mo_part 51 = .ok (.iadd, 1) := by decide +kernel
theorem d_mo_part_52 : decode c_mo_part 52 = .ok (.putfield 154, 3) := by decide +kernel
theorem d_mo_part_55 : decode c_mo_part 55 = .ok (.aload_n 0, 1) := by decide +kernel
theorem d_mo_part_56 : decode c_mo_part 56 = .ok (.getfield 154, 3) := by decide +kernel
theorem d_mo_part_59 : decode c_mo_part 59 = .ok (.ireturn, 1) := by decide +kernel
theorem d_mo_instance_0 : decode c_mo_instance 0 = .ok (.aload_n 0, 1) := by decide +kernel
theorem d_mo_instance_1 : decode c_mo_instance 1 = .ok (.aload_n 0, 1) := by decide +kernel
theorem d_mo_instance_2 : decode c_mo_instance 2 = .ok (.getfield 147, 3) := by decide +kernel
theorem d_mo_instance_5 : decode c_mo_instance 5 = .ok (.bipush 6, 2) := by decide +kernel
theorem d_mo_instance_7 : decode c_mo_instance 7 = .ok (.if_icmp .ne 7, 3) := by decide +kernel
theorem d_mo_instance_10 : decode c_mo_instance 10 = .ok (.iconst 1, 1) := by decide +kernel
theorem d_mo_instance_11 : decode c_mo_instance 11 = .ok (.goto 4, 3) := by decide +kernel
theorem d_mo_instance_14 : decode c_mo_instance 14 = .ok (.iconst 0, 1) := by decide +kernel
theorem d_mo_instance_15 : decode c_mo_instance 15 = .ok (.invokevirtual 157, 3) := by decide +kernel
theorem d_mo_instance_18 : decode c_mo_instance 18 = .ok (.ifCond .eq 5, 3) := by decide +kernel
theorem d_mo_instance_21 : decode c_mo_instance 21 = .ok (.iconst 0, 1) := by decide +kernel
theorem d_mo_instance_22 : decode c_mo_instance 22 = .ok (.ireturn, 1) := by decide +kernel
theorem d_mo_instance_23 : decode c_mo_instance 23 = .ok (.aload_n 0, 1) := by decide +kernel
theorem d_mo_instance_24 : decode c_mo_instance 24 = .ok (.getfield 40, 3) := by decide +kernel
theorem d_mo_instance_27 : decode c_mo_instance 27 = .ok (.aload_n 0, 1) := by decide +kernel
theorem d_mo_instance_28 : decode c_mo_instance 28 = .ok (.getfield 147, 3) := by decide +kernel
theorem d_mo_instance_31 : decode c_mo_instance 31 = .ok (.sipush 128, 3) := by decide +kernel
theorem d_mo_instance_34 : decode c_mo_instance 34 = .ok (.iastore, 1) := by decide +kernel
theorem d_mo_instance_35 : decode c_mo_instance 35 = .ok (.aload_n 0, 1) := by decide +kernel
theorem d_mo_instance_36 : decode c_mo_instance 36 = .ok (.dup, 1) := by decide +kernel
theorem d_mo_instance_37 : decode c_mo_instance 37 = .ok (.getfield 147, 3) := by decide +kernel
theorem d_mo_instance_40 : decode c_mo_instance 40 = .ok (.iconst 1, 1) := by decide +kernel
theorem d_mo_instance_41 : decode c_mo_instance 41 = .ok (.iadd, 1) := by decide +kernel
theorem d_mo_instance_42 : decode c_mo_instance 42 = .ok (.putfield 147, 3) := by decide +kernel
theorem d_mo_instance_45 : decode c_mo_instance 45 = .ok (.aload_n 0, 1) := by decide +kernel
theorem d_mo_instance_46 : decode c_mo_instance 46 = .ok (.getfield 147, 3) := by decide +kernel
theorem d_mo_instance_49 : decode c_mo_instance 49 = .ok (.iconst 1, 1) := by decide +kernel
theorem d_mo_instance_50 : decode c_mo_instance 50 = .ok (.isub, 1) := by decide +kernel
theorem d_mo_instance_51 : decode c_mo_instance 51 = .ok (.ireturn, 1) := by decide +kernel
theorem d_mo_read_0 : decode c_mo_read 0 = .ok (.aload_n 0, 1) := by decide +kernel
theorem d_mo_read_1 : decode c_mo_read 1 = .ok (.aload_n 0, 1) := by decide +kernel
theorem d_mo_read_2 : decode c_mo_read 2 = .ok (.iload_n 1, 1) := by decide +kernel
theorem d_mo_read_3 : decode c_mo_read 3 = .ok (.invokevirtual 197, 3) := by decide +kernel
theorem d_mo_read_6 : decode c_mo_read 6 = .ok (.ifCond .ne 7, 3) := by decide +kernel
theorem d_mo_read_9 : decode c_mo_read 9 = .ok (.iconst 1, 1) := by decide +kernel
theorem d_mo_read_10 : decode c_mo_read 10 = .ok (.goto 19, 3) := by decide +kernel
theorem d_mo_read_13 : decode c_mo_read 13 = .ok (.iload_n 2, 1) := by decide +kernel
theorem d_mo_read_14 : decode c_mo_read 14 = .ok (.ifCond .lt 10, 3) := by decide +kernel
theorem d_mo_read_17 : decode c_mo_read 17 = .ok (.iload_n 2, 1) := by decide +kernel
theorem d_mo_read_18 : decode c_mo_read 18 = .ok (.sipush 255, 3) := by decide +kernel
theorem d_mo_read_21 : decode c_mo_read 21 = .ok (.if_icmp .le 7, 3) := by decide +kernel
theorem d_mo_read_24 : decode c_mo_read 24 = .ok (.iconst 2, 1) := by decide +kernel
theorem d_mo_read_25 : decode c_mo_read 25 = .ok (.goto 4, 3) := by decide +kernel
theorem d_mo_read_28 : decode c_mo_read 28 = .ok (.iconst 0, 1) := by decide +kernel
theorem d_mo_read_29 : decode c_mo_read 29 = .ok (.invokevirtual 157, 3) := by decide +kernel
theorem d_mo_read_32 : decode c_mo_read 32 = .ok (.ifCond .eq 7, 3) := by decide +kernel
theorem d_mo_read_35 : decode c_mo_read 35 = .ok (.iconst 0, 1) := by decide +kernel
theorem d_mo_read_36 : decode c_mo_read 36 = .ok (.goto 15, 3) := by decide +kernel
theorem d_mo_read_39 : decode c_mo_read 39 = .ok (.aload_n 0, 1) := by decide +kernel
theorem d_mo_read_40 : decode c_mo_read 40 = .ok (.getfield 37, 3) := by decide +kernel
theorem d_mo_read_43 : decode c_mo_read 43 = .ok (.sipush 256, 3) := by decide +kernel
theorem d_mo_read_46 : decode c_mo_read 46 = .ok (.iload_n 1, 1) := by decide +kernel
theorem d_mo_read_47 : decode c_mo_read 47 = .ok (.imul, 1) := by decide +kernel
theorem d_mo_read_48 : decode c_mo_read 48 = .ok (.iload_n 2, 1) := by decide +kernel
theorem d_mo_read_49 : decode c_mo_read 49 = .ok (.iadd, 1) := by decide +kernel
theorem d_mo_read_50 : decode c_mo_read 50 = .ok (.iaload, 1) := by decide +kernel
theorem d_mo_read_51 : decode c_mo_read 51 = .ok (.ireturn, 1) := by decide +kernel
theorem d_mo_enter_0 : decode c_mo_enter 0 = .ok (.aload_n 0, 1) := by decide +kernel
theorem d_mo_enter_1 : decode c_mo_enter 1 = .ok (.aload_n 0, 1) := by decide +kernel
theorem d_mo_enter_2 : decode c_mo_enter 2 = .ok (.iload_n 1, 1) := by decide +kernel
theorem d_mo_enter_3 : decode c_mo_enter 3 = .ok (.invokevirtual 197, 3) := by decide +kernel
theorem d_mo_enter_6 : decode c_mo_enter 6 = .ok (.ifCond .ne 7, 3) := by decide +kernel
theorem d_mo_enter_9 : decode c_mo_enter 9 = .ok (.iconst 1, 1) := by decide +kernel
theorem d_mo_enter_10 : decode c_mo_enter 10 = .ok (.goto 24, 3) := by decide +kernel
theorem d_mo_enter_13 : decode c_mo_enter 13 = .ok (.aload_n 0, 1) := by decide +kernel
theorem d_mo_enter_14 : decode c_mo_enter 14 = .ok (.getfield 208, 3) := by decide +kernel
theorem d_mo_enter_17 : decode c_mo_enter 17 = .ok (.ifCond .gt 12, 3) := by decide +kernel
theorem d_mo_enter_20 : decode c_mo_enter 20 = .ok (.aload_n 0, 1) := by decide +kernel
theorem d_mo_enter_21 : decode c_mo_enter 21 = .ok (.getfield 43, 3) := by decide +kernel
theorem d_mo_enter_24 : decode c_mo_enter 24 = .ok (.iload_n 1, 1) := by decide +kernel
theorem d_mo_enter_25 : decode c_mo_enter 25 = .ok (.iaload, 1) := by decide +kernel
theorem d_mo_enter_26 : decode c_mo_enter 26 = .ok (.ifCond .eq 7, 3) := by decide +kernel
theorem d_mo_enter_29 : decode c_mo_enter 29 = .ok (.iconst 2, 1) := by decide +kernel
theorem d_mo_enter_30 : decode c_mo_enter 30 = .ok (.goto 4, 3) := by decide +kernel
theorem d_mo_enter_33 : decode c_mo_enter 33 = .ok (.iconst 0, 1) := by decide +kernel
theorem d_mo_enter_34 : decode c_mo_enter 34 = .ok (.invokevirtual 157, 3) := by decide +kernel
theorem d_mo_enter_37 : decode c_mo_enter 37 = .ok (.ifCond .eq 4, 3) := by decide +kernel
theorem d_mo_enter_40 : decode c_mo_enter 40 = .ok (.return_, 1) := by decide +kernel
theorem d_mo_enter_41 : decode c_mo_enter 41 = .ok (.aload_n 0, 1) := by decide +kernel
theorem d_mo_enter_42 : decode c_mo_enter 42 = .ok (.iload_n 1, 1) := by decide +kernel
theorem d_mo_enter_43 : decode c_mo_enter 43 = .ok (.iconst (-1), 1) := by decide +kernel
theorem d_mo_enter_44 : decode c_mo_enter 44 = .ok (.iconst (-1), 1) := by decide +kernel
theorem d_mo_enter_45 : decode c_mo_enter 45 = .ok (.invokevirtual 211, 3) := by decide +kernel
theorem d_mo_enter_48 : decode c_mo_enter 48 = .ok (.return_, 1) := by decide +kernel
theorem d_mo_leave_0 : decode c_mo_leave 0 = .ok (.aload_n 0, 1) := by decide +kernel
theorem d_mo_leave_1 : decode c_mo_leave 1 = .ok (.aload_n 0, 1) := by decide +kernel
theorem d_mo_leave_2 : decode c_mo_leave 2 = .ok (.getfield 208, 3) := by decide +kernel
theorem d_mo_leave_5 : decode c_mo_leave 5 = .ok (.iconst 1, 1) := by decide +kernel
theorem d_mo_leave_6 : decode c_mo_leave 6 = .ok (.if_icmp .eq 7, 3) := by decide +kernel
theorem d_mo_leave_9 : decode c_mo_leave 9 = .ok (.iconst 1, 1) := by decide +kernel
theorem d_mo_leave_10 : decode c_mo_leave 10 = .ok (.goto 4, 3) := by decide +kernel
theorem d_mo_leave_13 : decode c_mo_leave 13 = .ok (.iconst 0, 1) := by decide +kernel
theorem d_mo_leave_14 : decode c_mo_leave 14 = .ok (.invokevirtual 157, 3) := by decide +kernel
theorem d_mo_leave_17 : decode c_mo_leave 17 = .ok (.ifCond .eq 4, 3) := by decide +kernel
theorem d_mo_leave_20 : decode c_mo_leave 20 = .ok (.return_, 1) := by decide +kernel
theorem d_mo_leave_21 : decode c_mo_leave 21 = .ok (.aload_n 0, 1) := by decide +kernel
theorem d_mo_leave_22 : decode c_mo_leave 22 = .ok (.iconst 0, 1) := by decide +kernel
theorem d_mo_leave_23 : decode c_mo_leave 23 = .ok (.putfield 208, 3) := by decide +kernel
theorem d_mo_leave_26 : decode c_mo_leave 26 = .ok (.aload_n 0, 1) := by decide +kernel
theorem d_mo_leave_27 : decode c_mo_leave 27 = .ok (.getfield 43, 3) := by decide +kernel
theorem d_mo_leave_30 : decode c_mo_leave 30 = .ok (.aload_n 0, 1) := by decide +kernel
theorem d_mo_leave_31 : decode c_mo_leave 31 = .ok (.getfield 80, 3) := by decide +kernel
theorem d_mo_leave_34 : decode c_mo_leave 34 = .ok (.iconst 0, 1) := by decide +kernel
theorem d_mo_leave_35 : decode c_mo_leave 35 = .ok (.iaload, 1) := by decide +kernel
theorem d_mo_leave_36 : decode c_mo_leave 36 = .ok (.iconst 0, 1) := by decide +kernel
theorem d_mo_leave_37 : decode c_mo_leave 37 = .ok (.iastore, 1) := by decide +kernel
theorem d_mo_leave_38 : decode c_mo_leave 38 = .ok (.aload_n 0, 1) := by decide +kernel
theorem d_mo_leave_39 : decode c_mo_leave 39 = .ok (.getfield 40, 3) := by decide +kernel
theorem d_mo_leave_42 : decode c_mo_leave 42 = .ok (.aload_n 0, 1) := by decide +kernel
theorem d_mo_leave_43 : decode c_mo_leave 43 = .ok (.getfield 80, 3) := by decide +kernel
theorem d_mo_leave_46 : decode c_mo_leave 46 = .ok (.iconst 0, 1) := by decide +kernel
theorem d_mo_leave_47 : decode c_mo_leave 47 = .ok (.iaload, 1) := by decide +kernel
theorem d_mo_leave_48 : decode c_mo_leave 48 = .ok (.sipush 128, 3) := by decide +kernel
theorem d_mo_leave_51 : decode c_mo_leave 51 = .ok (.iastore, 1) := by decide +kernel
theorem d_mo_leave_52 : decode c_mo_leave 52 = .ok (.return_, 1) := by decide +kernel
theorem d_mo_latest_0 : decode c_mo_latest 0 = .ok (.aload_n 0, 1) := by decide +kernel
theorem d_mo_latest_1 : decode c_mo_latest 1 = .ok (.iload_n 1, 1) := by decide +kernel
theorem d_mo_latest_2 : decode c_mo_latest 2 = .ok (.ifCond .lt 8, 3) := by decide +kernel
theorem d_mo_latest_5 : decode c_mo_latest 5 = .ok (.iload_n 1, 1) := by decide +kernel
theorem d_mo_latest_6 : decode c_mo_latest 6 = .ok (.iconst 2, 1) := by decide +kernel
theorem d_mo_latest_7 : decode c_mo_latest 7 = .ok (.if_icmp .le 7, 3) := by decide +kernel
theorem d_mo_latest_10 : decode c_mo_latest 10 = .ok (.iconst 1, 1) := by decide +kernel
theorem d_mo_latest_11 : decode c_mo_latest 11 = .ok (.goto 4, 3) := by decide +kernel
theorem d_mo_latest_14 : decode c_mo_latest 14 = .ok (.iconst 0, 1) := by decide +kernel
theorem d_mo_latest_15 : decode c_mo_latest 15 = .ok (.invokevirtual 157, 3) := by decide +kernel
theorem d_mo_latest_18 : decode c_mo_latest 18 = .ok (.ifCond .eq 5, 3) := by decide +kernel
theorem d_mo_latest_21 : decode c_mo_latest 21 = .ok (.iconst 0, 1) := by decide +kernel
theorem d_mo_latest_22 : decode c_mo_latest 22 = .ok (.ireturn, 1) := by decide +kernel
theorem d_mo_latest_23 : decode c_mo_latest 23 = .ok (.iload_n 1, 1) := by decide +kernel
theorem d_mo_latest_24 : decode c_mo_latest 24 = .ok (.ifCond .ne 10, 3) := by decide +kernel
theorem d_mo_latest_27 : decode c_mo_latest 27 = .ok (.aload_n 0, 1) := by decide +kernel
theorem d_mo_latest_28 : decode c_mo_latest 28 = .ok (.getfield 278, 3) := by decide +kernel
theorem d_mo_latest_31 : decode c_mo_latest 31 = .ok (.goto 19, 3) := by decide +kernel
theorem d_mo_latest_34 : decode c_mo_latest 34 = .ok (.iload_n 1, 1) := by decide +kernel
theorem d_mo_latest_35 : decode c_mo_latest 35 = .ok (.iconst 1, 1) := by decide +kernel
theorem d_mo_latest_36 : decode c_mo_latest 36 = .ok (.if_icmp .ne 10, 3) := by decide +kernel
theorem d_mo_latest_39 : decode c_mo_latest 39 = .ok (.aload_n 0, 1) := by decide +kernel
theorem d_mo_latest_40 : decode c_mo_latest 40 = .ok (.getfield 281, 3) := by decide +kernel
theorem d_mo_latest_43 : decode c_mo_latest 43 = .ok (.goto 7, 3) := by decide +kernel
theorem d_mo_latest_46 : decode c_mo_latest 46 = .ok (.aload_n 0, 1) := by decide +kernel
theorem d_mo_latest_47 : decode c_mo_latest 47 = .ok (.getfield 89, 3) := by decide +kernel
theorem d_mo_latest_50 : decode c_mo_latest 50 = .ok (.ireturn, 1) := by decide +kernel
end
section
/-- the lowest handle not in use, 0 if there is none: n of the 16 are looked at, from the highest down -/
def mo_fh (u : Nat → Int32) (b : Nat) : Nat → Nat
  | 0 => 0
  | n + 1 => if u (b + (16 - n)) = 0 then 16 - n else mo_fh u b n
/-- how many of the first n handles are in use -/
def mo_iu (u : Nat → Int32) (b : Nat) : Nat → Nat
  | 0 => 0
  | n + 1 => if u (b + (n + 1)) = 0 then mo_iu u b n else mo_iu u b n + 1
/-- how many of the first n handles are lent from x, beside p -/
def mo_ln (B : Nat → Nat → Int32) (x p : Int32) : Nat → Int32
  | 0 => p
  | n + 1 => if ¬ B 16 n = 0 ∧ B 18 n = 0 ∧ B 19 n = x then mo_ln B x p n + 1 else mo_ln B x p n
theorem mo_r0 {x : Int32} (h : mo_bl x (¬ (0 : Int32) ≤ 0)) : x = 0 := by
  rcases h with ⟨-, h⟩ | ⟨h, -⟩
  · exact absurd (by decide) h
  · exact h
theorem mo_rk {x c : Int32} (h : mo_bl x (¬ c ≤ 0)) (hc : ¬ c ≤ 0) : ¬ x = 0 := by
  rcases h with ⟨rfl, -⟩ | ⟨-, h⟩
  · decide
  · exact absurd hc h

set_option maxHeartbeats 4000000 in
set_option maxRecDepth 100000 in
theorem mt_freeHandle {l : Launch} {D : va_G} {tl : List (ClassId × FieldType)} {Z : (Nat → Prop) → State → Heap → Prop} {kI kZ : ClassId} {am : Nat → Nat} {F : Nat → Int32} {B : Nat → Nat → Int32} (hZ : ev_Zok Z) (I : Nat) (hI : I < 6) : MT (mo_π l D cl_A kI kZ tl Z) m_freeHandle 0 0 [.ref (am 60), .int (nI I)] (mo_W mo_ci am kI kZ F B) (mo_qi am kI kZ (fun x F1 B1 => x = nI (mo_fh (B 16) (17 * I) 16) ∧ F1 = F ∧ B1 = B)) := by
  refine mt_of mo_pl rfl (Nat.le_of_ble_eq_true rfl) (ev_eq (lv' := [some (.ref (am 60)), some (.int (nI I)), none, none]) ?_)
  have L5 : ∀ m n : Nat, 16 - n < m → n ≤ 16 → EV (mo_π l D cl_A kI kZ tl Z) m_freeHandle (ev_E (mo_π l D cl_A kI kZ tl Z) 0 0 (mo_qi am kI kZ (fun x F1 B1 => x = nI (mo_fh (B 16) (17 * I) 16) ∧ F1 = F ∧ B1 = B))) 0 0 5 [some (.ref (am 60)), some (.int (nI I)), some (.int (nI (mo_fh (B 16) (17 * I) n))), some (.int (nI (16 - n)))] [] (mo_W mo_ci am kI kZ F B) := by
    intro m
    induction m with
    | zero => intro n h; omega
    | succ m ih =>
      intro n hm hn
      refine ev_iload_3 5 d_mo_freeHandle_5 ?_
      refine ev_iconst_1 6 d_mo_freeHandle_6 ?_
      refine ev_icmplt 7 36 d_mo_freeHandle_7 (fun c7 => ?_) (fun c7 => ?_)
      · have h7 := n_lt (16 - n) 1 c7
        obtain rfl : n = 16 := by omega
        refine ev_iload_2 36 d_mo_freeHandle_36 ?_
        refine ev_iret 37 d_mo_freeHandle_37 rfl ?_
        exact ⟨_, _, _, rfl, rfl, rfl, rfl, rfl⟩
      · have h7 := n_nlt (16 - n) 1 c7
        refine ev_aload_0 10 d_mo_freeHandle_10 ?_
        refine mo_getr 11 12 16 d_mo_freeHandle_11 lk_46 ?_
        refine ev_bipush (17) 14 d_mo_freeHandle_14 (by decide) ?_
        refine ev_iload_1 16 d_mo_freeHandle_16 ?_
        refine ev_imul 17 d_mo_freeHandle_17 ?_
        refine ev_iload_3 18 d_mo_freeHandle_18 ?_
        refine ev_iadd 19 d_mo_freeHandle_19 ?_
        refine ev_topi (nI (17 * I + (16 - n))) (by rw [n_17, pk_mul, nI_add]) ?_
        refine mo_zldn (j := 17 * I + (16 - n)) 20 12 16 d_mo_freeHandle_20 (by show 17 * I + (16 - n) < 102; omega) ?_
        refine ev_ifeq 21 28 d_mo_freeHandle_21 (fun c21 => ?_) (fun c21 => ?_)
        · refine ev_iload_3 28 d_mo_freeHandle_28 ?_
          refine ev_istore_2 29 d_mo_freeHandle_29 ?_
          refine ev_iinc_3 30 d_mo_freeHandle_30 ?_
          refine ev_goto 33 5 d_mo_freeHandle_33 ?_
          exact ev_eq (ih (n + 1) (by omega) (by omega)) (h1 := by rw [n_d1 (by omega), show 16 - n - 1 = 16 - (n + 1) by omega, mo_fh, if_pos c21])
        · refine ev_iload_2 24 d_mo_freeHandle_24 ?_
          refine ev_goto 25 29 d_mo_freeHandle_25 ?_
          refine ev_istore_2 29 d_mo_freeHandle_29 ?_
          refine ev_iinc_3 30 d_mo_freeHandle_30 ?_
          refine ev_goto 33 5 d_mo_freeHandle_33 ?_
          exact ev_eq (ih (n + 1) (by omega) (by omega)) (h1 := by rw [n_d1 (by omega), show 16 - n - 1 = 16 - (n + 1) by omega, mo_fh, if_neg c21])
  refine ev_iconst_0 0 d_mo_freeHandle_0 ?_
  refine ev_istore_2 1 d_mo_freeHandle_1 ?_
  refine ev_bipush (16) 2 d_mo_freeHandle_2 (by decide) ?_
  refine ev_istore_3 4 d_mo_freeHandle_4 ?_
  exact L5 17 0 (by omega) (by omega)

set_option maxHeartbeats 4000000 in
set_option maxRecDepth 100000 in
theorem mt_inUse {l : Launch} {D : va_G} {tl : List (ClassId × FieldType)} {Z : (Nat → Prop) → State → Heap → Prop} {kI kZ : ClassId} {am : Nat → Nat} {F : Nat → Int32} {B : Nat → Nat → Int32} (hZ : ev_Zok Z) (I : Nat) (hI : I < 6) : MT (mo_π l D cl_A kI kZ tl Z) m_inUse 0 0 [.ref (am 60), .int (nI I)] (mo_W mo_ci am kI kZ F B) (mo_qi am kI kZ (fun x F1 B1 => x = nI (mo_iu (B 16) (17 * I) 16) ∧ F1 = F ∧ B1 = B)) := by
  refine mt_of mo_pl rfl (Nat.le_of_ble_eq_true rfl) (ev_eq (lv' := [some (.ref (am 60)), some (.int (nI I)), none, none]) ?_)
  have L4 : ∀ m n : Nat, 16 - n < m → n ≤ 16 → EV (mo_π l D cl_A kI kZ tl Z) m_inUse (ev_E (mo_π l D cl_A kI kZ tl Z) 0 0 (mo_qi am kI kZ (fun x F1 B1 => x = nI (mo_iu (B 16) (17 * I) 16) ∧ F1 = F ∧ B1 = B))) 0 0 4 [some (.ref (am 60)), some (.int (nI I)), some (.int (nI (mo_iu (B 16) (17 * I) n))), some (.int (nI (n + 1)))] [] (mo_W mo_ci am kI kZ F B) := by
    intro m
    induction m with
    | zero => intro n h; omega
    | succ m ih =>
      intro n hm hn
      refine ev_iload_3 4 d_mo_inUse_4 ?_
      refine ev_bipush (16) 5 d_mo_inUse_5 (by decide) ?_
      refine ev_icmpgt 7 38 d_mo_inUse_7 (fun c7 => ?_) (fun c7 => ?_)
      · have h7 := n_lt 16 (n + 1) c7
        obtain rfl : n = 16 := by omega
        refine ev_iload_2 38 d_mo_inUse_38 ?_
        refine ev_iret 39 d_mo_inUse_39 rfl ?_
        exact ⟨_, _, _, rfl, rfl, rfl, rfl, rfl⟩
      · have h7 := n_nlt 16 (n + 1) c7
        refine ev_aload_0 10 d_mo_inUse_10 ?_
        refine mo_getr 11 12 16 d_mo_inUse_11 lk_46 ?_
        refine ev_bipush (17) 14 d_mo_inUse_14 (by decide) ?_
        refine ev_iload_1 16 d_mo_inUse_16 ?_
        refine ev_imul 17 d_mo_inUse_17 ?_
        refine ev_iload_3 18 d_mo_inUse_18 ?_
        refine ev_iadd 19 d_mo_inUse_19 ?_
        refine ev_topi (nI (17 * I + (n + 1))) (by rw [n_17, pk_mul, nI_add]) ?_
        refine mo_zldn (j := 17 * I + (n + 1)) 20 12 16 d_mo_inUse_20 (by show 17 * I + (n + 1) < 102; omega) ?_
        refine ev_ifeq 21 30 d_mo_inUse_21 (fun c21 => ?_) (fun c21 => ?_)
        · refine ev_iload_2 30 d_mo_inUse_30 ?_
          refine ev_istore_2 31 d_mo_inUse_31 ?_
          refine ev_iinc_3 32 d_mo_inUse_32 ?_
          refine ev_goto 35 4 d_mo_inUse_35 ?_
          exact ev_eq (ih (n + 1) (by omega) (by omega)) (h1 := by rw [n_i1, mo_iu, if_pos c21])
        · refine ev_iload_2 24 d_mo_inUse_24 ?_
          refine ev_iconst_1 25 d_mo_inUse_25 ?_
          refine ev_iadd 26 d_mo_inUse_26 ?_
          refine ev_goto 27 31 d_mo_inUse_27 ?_
          refine ev_istore_2 31 d_mo_inUse_31 ?_
          refine ev_iinc_3 32 d_mo_inUse_32 ?_
          refine ev_goto 35 4 d_mo_inUse_35 ?_
          exact ev_eq (ih (n + 1) (by omega) (by omega)) (h1 := by rw [n_i1, mo_iu, if_neg c21, nI_1])
  refine ev_iconst_0 0 d_mo_inUse_0 ?_
  refine ev_istore_2 1 d_mo_inUse_1 ?_
  refine ev_iconst_1 2 d_mo_inUse_2 ?_
  refine ev_istore_3 3 d_mo_inUse_3 ?_
  exact L4 17 0 (by omega) (by omega)

set_option maxHeartbeats 4000000 in
set_option maxRecDepth 100000 in
theorem mt_loans {l : Launch} {D : va_G} {tl : List (ClassId × FieldType)} {Z : (Nat → Prop) → State → Heap → Prop} {kI kZ : ClassId} {am : Nat → Nat} {F : Nat → Int32} {B : Nat → Nat → Int32} (hZ : ev_Zok Z) (X : Nat) (hX : X < 102) : MT (mo_π l D cl_A kI kZ tl Z) m_loans 0 0 [.ref (am 60), .int (nI X)] (mo_W mo_ci am kI kZ F B) (mo_qi am kI kZ (fun x F1 B1 => x = mo_ln B (nI X) (B 21 X) 102 ∧ F1 = F ∧ B1 = B)) := by
  refine mt_of mo_pl rfl (Nat.le_of_ble_eq_true rfl) (ev_eq (lv' := [some (.ref (am 60)), some (.int (nI X)), none, none]) ?_)
  have L9 : ∀ m n : Nat, 102 - n < m → n ≤ 102 → EV (mo_π l D cl_A kI kZ tl Z) m_loans (ev_E (mo_π l D cl_A kI kZ tl Z) 0 0 (mo_qi am kI kZ (fun x F1 B1 => x = mo_ln B (nI X) (B 21 X) 102 ∧ F1 = F ∧ B1 = B))) 0 0 9 [some (.ref (am 60)), some (.int (nI X)), some (.int (mo_ln B (nI X) (B 21 X) n)), some (.int (nI n))] [] (mo_W mo_ci am kI kZ F B) := by
    intro m
    induction m with
    | zero => intro n h; omega
    | succ m ih =>
      intro n hm hn
      refine ev_iload_3 9 d_mo_loans_9 ?_
      refine ev_bipush (102) 10 d_mo_loans_10 (by decide) ?_
      refine ev_icmpge 12 57 d_mo_loans_12 (fun c12 => ?_) (fun c12 => ?_)
      · have h12 := n_le 102 n c12
        obtain rfl : n = 102 := by omega
        refine ev_iload_2 57 d_mo_loans_57 ?_
        refine ev_iret 58 d_mo_loans_58 rfl ?_
        exact ⟨_, _, _, rfl, rfl, rfl, rfl, rfl⟩
      · have h12 := n_nle 102 n c12
        refine ev_aload_0 15 d_mo_loans_15 ?_
        refine mo_getr 16 12 16 d_mo_loans_16 lk_46 ?_
        refine ev_iload_3 19 d_mo_loans_19 ?_
        refine mo_zldn (j := n) 20 12 16 d_mo_loans_20 (by show n < 102; omega) ?_
        refine ev_ifeq 21 49 d_mo_loans_21 (fun c21 => ?_) (fun c21 => ?_)
        · refine ev_iload_2 49 d_mo_loans_49 ?_
          refine ev_istore_2 50 d_mo_loans_50 ?_
          refine ev_iinc_3 51 d_mo_loans_51 ?_
          refine ev_goto 54 9 d_mo_loans_54 ?_
          exact ev_eq (ih (n + 1) (by omega) (by omega)) (h1 := by rw [n_i1, mo_ln, if_neg (fun z => z.1 c21)])
        · refine ev_aload_0 24 d_mo_loans_24 ?_
          refine mo_getr 25 14 18 d_mo_loans_25 lk_53 ?_
          refine ev_iload_3 28 d_mo_loans_28 ?_
          refine mo_zldn (j := n) 29 14 18 d_mo_loans_29 (by show n < 102; omega) ?_
          refine ev_ifne 30 49 d_mo_loans_30 (fun c30 => ?_) (fun c30 => ?_)
          · refine ev_iload_2 49 d_mo_loans_49 ?_
            refine ev_istore_2 50 d_mo_loans_50 ?_
            refine ev_iinc_3 51 d_mo_loans_51 ?_
            refine ev_goto 54 9 d_mo_loans_54 ?_
            exact ev_eq (ih (n + 1) (by omega) (by omega)) (h1 := by rw [n_i1, mo_ln, if_neg (fun z => c30 z.2.1)])
          · refine ev_aload_0 33 d_mo_loans_33 ?_
            refine mo_getr 34 15 19 d_mo_loans_34 lk_56 ?_
            refine ev_iload_3 37 d_mo_loans_37 ?_
            refine mo_aldn (j := n) 38 15 19 d_mo_loans_38 (by show n < 102; omega) ?_
            refine ev_iload_1 39 d_mo_loans_39 ?_
            refine ev_icmpne 40 49 d_mo_loans_40 (fun c40 => ?_) (fun c40 => ?_)
            · refine ev_iload_2 49 d_mo_loans_49 ?_
              refine ev_istore_2 50 d_mo_loans_50 ?_
              refine ev_iinc_3 51 d_mo_loans_51 ?_
              refine ev_goto 54 9 d_mo_loans_54 ?_
              exact ev_eq (ih (n + 1) (by omega) (by omega)) (h1 := by rw [n_i1, mo_ln, if_neg (fun z => c40 z.2.2)])
            · refine ev_iload_2 43 d_mo_loans_43 ?_
              refine ev_iconst_1 44 d_mo_loans_44 ?_
              refine ev_iadd 45 d_mo_loans_45 ?_
              refine ev_goto 46 50 d_mo_loans_46 ?_
              refine ev_istore_2 50 d_mo_loans_50 ?_
              refine ev_iinc_3 51 d_mo_loans_51 ?_
              refine ev_goto 54 9 d_mo_loans_54 ?_
              exact ev_eq (ih (n + 1) (by omega) (by omega)) (h1 := by rw [n_i1, mo_ln, if_pos ⟨c21, c30, c40⟩])
  refine ev_aload_0 0 d_mo_loans_0 ?_
  refine mo_getr 1 17 21 d_mo_loans_1 lk_62 ?_
  refine ev_iload_1 4 d_mo_loans_4 ?_
  refine mo_aldn (j := X) 5 17 21 d_mo_loans_5 (by exact hX) ?_
  refine ev_istore_2 6 d_mo_loans_6 ?_
  refine ev_iconst_0 7 d_mo_loans_7 ?_
  refine ev_istore_3 8 d_mo_loans_8 ?_
  exact L9 103 0 (by omega) (by omega)

set_option maxHeartbeats 4000000 in
set_option maxRecDepth 100000 in
theorem mt_part {l : Launch} {D : va_G} {tl : List (ClassId × FieldType)} {Z : (Nat → Prop) → State → Heap → Prop} {kI kZ : ClassId} {am : Nat → Nat} {F : Nat → Int32} {B : Nat → Nat → Int32} (hZ : ev_Zok Z) (t : Int32) (hd : ¬ F 10 = 6 → vp_in (F 10) 6) : MT (mo_π l D cl_A kI kZ tl Z) m_part 0 0 [.ref (am 60), .int t] (mo_W mo_ci am kI kZ F B) (mo_qi am kI kZ (fun x F1 B1 => (¬ (¬ t < 0 ∧ ¬ F 1 ≤ t) ∧ x = 0 ∧ F1 = upd F 0 1 ∧ B1 = B) ∨ ((¬ t < 0 ∧ ¬ F 1 ≤ t) ∧ F 10 = 6 ∧ x = 0 ∧ F1 = upd F 0 2 ∧ B1 = B) ∨ ((¬ t < 0 ∧ ¬ F 1 ≤ t) ∧ ¬ F 10 = 6 ∧ x = F 10 + 1 ∧ F1 = upd (upd F 0 0) 10 (F 10 + 1) ∧ B1 = va_up B 11 (upd (B 11) (F 10).toNatClampNeg t)))) := by
  refine mt_of mo_pl rfl (Nat.le_of_ble_eq_true rfl) (ev_eq (lv' := [some (.ref (am 60)), some (.int t)]) ?_)
  refine ev_aload_0 0 d_mo_part_0 ?_
  refine ev_aload_0 1 d_mo_part_1 ?_
  refine ev_iload_1 2 d_mo_part_2 ?_
  refine mo_calli1 3 d_mo_part_3 hZ kc_150 (mt_isType hZ _) (fun y F1 B1 h => ?_)
  obtain ⟨hy, e1, e2⟩ := h
  subst F1
  subst B1
  refine ev_ifne 6 13 d_mo_part_6 (fun c6 => ?_) (fun c6 => ?_)
  · refine ev_aload_0 13 d_mo_part_13 ?_
    refine mo_geti 14 10 d_mo_part_14 lk_154 ?_
    refine ev_bipush (6) 17 d_mo_part_17 (by decide) ?_
    refine ev_icmpne 19 26 d_mo_part_19 (fun c19 => ?_) (fun c19 => ?_)
    · refine ev_iconst_0 26 d_mo_part_26 ?_
      refine mo_calli1 27 d_mo_part_27 hZ kc_157 (mt_refuses hZ _) (fun x F1 B1 h => ?_)
      obtain ⟨hx, e1, e2⟩ := h
      subst F1
      subst B1
      refine ev_ifeq 30 35 d_mo_part_30 (fun c30 => ?_) (fun c30 => ?_)
      · refine ev_aload_0 35 d_mo_part_35 ?_
        refine mo_getr 36 8 11 d_mo_part_36 lk_34 ?_
        refine ev_aload_0 39 d_mo_part_39 ?_
        refine mo_geti 40 10 d_mo_part_40 lk_154 ?_
        refine ev_iload_1 43 d_mo_part_43 ?_
        refine mo_ast 44 8 11 d_mo_part_44 (by exact hd c19) ?_
        refine ev_aload_0 45 d_mo_part_45 ?_
        refine ev_dup_a 46 d_mo_part_46 ?_
        refine mo_geti 47 10 d_mo_part_47 lk_154 ?_
        refine ev_iconst_1 50 d_mo_part_50 ?_
        refine ev_iadd 51 d_mo_part_51 ?_
        refine mo_puti 52 10 d_mo_part_52 lp_154 ?_
        refine ev_aload_0 55 d_mo_part_55 ?_
        refine mo_geti 56 10 d_mo_part_56 lk_154 ?_
        refine ev_iret 59 d_mo_part_59 rfl ?_
        exact ⟨_, _, _, rfl, rfl, Or.inr (Or.inr ⟨mo_b1 hy c6, c19, rfl, rfl, rfl⟩)⟩
      · exact absurd (mo_r0 hx) c30
    · refine ev_iconst_2 22 d_mo_part_22 ?_
      refine ev_goto 23 27 d_mo_part_23 ?_
      refine mo_calli1 27 d_mo_part_27 hZ kc_157 (mt_refuses hZ _) (fun x F1 B1 h => ?_)
      obtain ⟨hx, e1, e2⟩ := h
      subst F1
      subst B1
      refine ev_ifeq 30 35 d_mo_part_30 (fun c30 => ?_) (fun c30 => ?_)
      · exact absurd c30 (mo_rk hx (by decide))
      · refine ev_iconst_0 33 d_mo_part_33 ?_
        refine ev_iret 34 d_mo_part_34 rfl ?_
        exact ⟨_, _, _, rfl, rfl, Or.inr (Or.inl ⟨mo_b1 hy c6, c19, rfl, rfl, rfl⟩)⟩
  · refine ev_iconst_1 9 d_mo_part_9 ?_
    refine ev_goto 10 27 d_mo_part_10 ?_
    refine mo_calli1 27 d_mo_part_27 hZ kc_157 (mt_refuses hZ _) (fun x F1 B1 h => ?_)
    obtain ⟨hx, e1, e2⟩ := h
    subst F1
    subst B1
    refine ev_ifeq 30 35 d_mo_part_30 (fun c30 => ?_) (fun c30 => ?_)
    · exact absurd c30 (mo_rk hx (by decide))
    · refine ev_iconst_0 33 d_mo_part_33 ?_
      refine ev_iret 34 d_mo_part_34 rfl ?_
      exact ⟨_, _, _, rfl, rfl, Or.inl ⟨mo_b0 hy c6, rfl, rfl, rfl⟩⟩

set_option maxHeartbeats 4000000 in
set_option maxRecDepth 100000 in
theorem mt_instance {l : Launch} {D : va_G} {tl : List (ClassId × FieldType)} {Z : (Nat → Prop) → State → Heap → Prop} {kI kZ : ClassId} {am : Nat → Nat} {F : Nat → Int32} {B : Nat → Nat → Int32} (hZ : ev_Zok Z) (hd : ¬ F 12 = 6 → vp_in (F 12) 6) : MT (mo_π l D cl_A kI kZ tl Z) m_instance 0 0 [.ref (am 60)] (mo_W mo_ci am kI kZ F B) (mo_qi am kI kZ (fun x F1 B1 => (F 12 = 6 ∧ x = 0 ∧ F1 = upd F 0 1 ∧ B1 = B) ∨ (¬ F 12 = 6 ∧ x = F 12 + 1 - 1 ∧ F1 = upd (upd F 0 0) 12 (F 12 + 1) ∧ B1 = va_up B 14 (upd (B 14) (F 12).toNatClampNeg 128)))) := by
  refine mt_of mo_pl rfl (Nat.le_of_ble_eq_true rfl) (ev_eq (lv' := [some (.ref (am 60))]) ?_)
  refine ev_aload_0 0 d_mo_instance_0 ?_
  refine ev_aload_0 1 d_mo_instance_1 ?_
  refine mo_geti 2 12 d_mo_instance_2 lk_147 ?_
  refine ev_bipush (6) 5 d_mo_instance_5 (by decide) ?_
  refine ev_icmpne 7 14 d_mo_instance_7 (fun c7 => ?_) (fun c7 => ?_)
  · refine ev_iconst_0 14 d_mo_instance_14 ?_
    refine mo_calli1 15 d_mo_instance_15 hZ kc_157 (mt_refuses hZ _) (fun x F1 B1 h => ?_)
    obtain ⟨hx, e1, e2⟩ := h
    subst F1
    subst B1
    refine ev_ifeq 18 23 d_mo_instance_18 (fun c18 => ?_) (fun c18 => ?_)
    · refine ev_aload_0 23 d_mo_instance_23 ?_
      refine mo_getr 24 10 14 d_mo_instance_24 lk_40 ?_
      refine ev_aload_0 27 d_mo_instance_27 ?_
      refine mo_geti 28 12 d_mo_instance_28 lk_147 ?_
      refine ev_sipush (128) 31 d_mo_instance_31 (by decide) ?_
      refine mo_ast 34 10 14 d_mo_instance_34 (by exact hd c7) ?_
      refine ev_aload_0 35 d_mo_instance_35 ?_
      refine ev_dup_a 36 d_mo_instance_36 ?_
      refine mo_geti 37 12 d_mo_instance_37 lk_147 ?_
      refine ev_iconst_1 40 d_mo_instance_40 ?_
      refine ev_iadd 41 d_mo_instance_41 ?_
      refine mo_puti 42 12 d_mo_instance_42 lp_147 ?_
      refine ev_aload_0 45 d_mo_instance_45 ?_
      refine mo_geti 46 12 d_mo_instance_46 lk_147 ?_
      refine ev_iconst_1 49 d_mo_instance_49 ?_
      refine ev_isub 50 d_mo_instance_50 ?_
      refine ev_iret 51 d_mo_instance_51 rfl ?_
      exact ⟨_, _, _, rfl, rfl, Or.inr ⟨c7, rfl, rfl, rfl⟩⟩
    · exact absurd (mo_r0 hx) c18
  · refine ev_iconst_1 10 d_mo_instance_10 ?_
    refine ev_goto 11 15 d_mo_instance_11 ?_
    refine mo_calli1 15 d_mo_instance_15 hZ kc_157 (mt_refuses hZ _) (fun x F1 B1 h => ?_)
    obtain ⟨hx, e1, e2⟩ := h
    subst F1
    subst B1
    refine ev_ifeq 18 23 d_mo_instance_18 (fun c18 => ?_) (fun c18 => ?_)
    · exact absurd c18 (mo_rk hx (by decide))
    · refine ev_iconst_0 21 d_mo_instance_21 ?_
      refine ev_iret 22 d_mo_instance_22 rfl ?_
      exact ⟨_, _, _, rfl, rfl, Or.inl ⟨c7, rfl, rfl, rfl⟩⟩

set_option maxHeartbeats 4000000 in
set_option maxRecDepth 100000 in
theorem mt_read {l : Launch} {D : va_G} {tl : List (ClassId × FieldType)} {Z : (Nat → Prop) → State → Heap → Prop} {kI kZ : ClassId} {am : Nat → Nat} {F : Nat → Int32} {B : Nat → Nat → Int32} (hZ : ev_Zok Z) (i : Int32) (p : Int32) (hb : (¬ i < 0 ∧ ¬ F 12 ≤ i) → ¬ p < 0 → ¬ 255 < p → vp_in (256 * i + p) 1536) : MT (mo_π l D cl_A kI kZ tl Z) m_read 0 0 [.ref (am 60), .int i, .int p] (mo_W mo_ci am kI kZ F B) (mo_qi am kI kZ (fun x F1 B1 => ((¬ (¬ i < 0 ∧ ¬ F 12 ≤ i) ∧ x = 0 ∧ F1 = upd F 0 1) ∨ ((¬ i < 0 ∧ ¬ F 12 ≤ i) ∧ (p < 0 ∨ 255 < p) ∧ x = 0 ∧ F1 = upd F 0 2) ∨ ((¬ i < 0 ∧ ¬ F 12 ≤ i) ∧ ¬ p < 0 ∧ ¬ 255 < p ∧ x = B 13 (256 * i + p).toNatClampNeg ∧ F1 = upd F 0 0)) ∧ B1 = B)) := by
  refine mt_of mo_pl rfl (Nat.le_of_ble_eq_true rfl) (ev_eq (lv' := [some (.ref (am 60)), some (.int i), some (.int p)]) ?_)
  refine ev_aload_0 0 d_mo_read_0 ?_
  refine ev_aload_0 1 d_mo_read_1 ?_
  refine ev_iload_1 2 d_mo_read_2 ?_
  refine mo_calli1 3 d_mo_read_3 hZ kc_197 (mt_isInstance hZ _) (fun y F1 B1 h => ?_)
  obtain ⟨hy, e1, e2⟩ := h
  subst F1
  subst B1
  refine ev_ifne 6 13 d_mo_read_6 (fun c6 => ?_) (fun c6 => ?_)
  · refine ev_iload_2 13 d_mo_read_13 ?_
    refine ev_iflt 14 24 d_mo_read_14 (fun c14 => ?_) (fun c14 => ?_)
    · refine ev_iconst_2 24 d_mo_read_24 ?_
      refine ev_goto 25 29 d_mo_read_25 ?_
      refine mo_calli1 29 d_mo_read_29 hZ kc_157 (mt_refuses hZ _) (fun x F1 B1 h => ?_)
      obtain ⟨hx, e1, e2⟩ := h
      subst F1
      subst B1
      refine ev_ifeq 32 39 d_mo_read_32 (fun c32 => ?_) (fun c32 => ?_)
      · exact absurd c32 (mo_rk hx (by decide))
      · refine ev_iconst_0 35 d_mo_read_35 ?_
        refine ev_goto 36 51 d_mo_read_36 ?_
        refine ev_iret 51 d_mo_read_51 rfl ?_
        exact ⟨_, _, _, rfl, rfl, Or.inr (Or.inl ⟨mo_b1 hy c6, Or.inl c14, rfl, rfl⟩), rfl⟩
    · refine ev_iload_2 17 d_mo_read_17 ?_
      refine ev_sipush (255) 18 d_mo_read_18 (by decide) ?_
      refine ev_icmple 21 28 d_mo_read_21 (fun c21 => ?_) (fun c21 => ?_)
      · refine ev_iconst_0 28 d_mo_read_28 ?_
        refine mo_calli1 29 d_mo_read_29 hZ kc_157 (mt_refuses hZ _) (fun x F1 B1 h => ?_)
        obtain ⟨hx, e1, e2⟩ := h
        subst F1
        subst B1
        refine ev_ifeq 32 39 d_mo_read_32 (fun c32 => ?_) (fun c32 => ?_)
        · refine ev_aload_0 39 d_mo_read_39 ?_
          refine mo_getr 40 9 13 d_mo_read_40 lk_37 ?_
          refine ev_sipush (256) 43 d_mo_read_43 (by decide) ?_
          refine ev_iload_1 46 d_mo_read_46 ?_
          refine ev_imul 47 d_mo_read_47 ?_
          refine ev_iload_2 48 d_mo_read_48 ?_
          refine ev_iadd 49 d_mo_read_49 ?_
          refine mo_ald 50 9 13 d_mo_read_50 (by exact hb (mo_b1 hy c6) c14 (Int32.not_lt.mpr c21)) ?_
          refine ev_iret 51 d_mo_read_51 rfl ?_
          exact ⟨_, _, _, rfl, rfl, Or.inr (Or.inr ⟨mo_b1 hy c6, c14, Int32.not_lt.mpr c21, rfl, rfl⟩), rfl⟩
        · exact absurd (mo_r0 hx) c32
      · refine ev_iconst_2 24 d_mo_read_24 ?_
        refine ev_goto 25 29 d_mo_read_25 ?_
        refine mo_calli1 29 d_mo_read_29 hZ kc_157 (mt_refuses hZ _) (fun x F1 B1 h => ?_)
        obtain ⟨hx, e1, e2⟩ := h
        subst F1
        subst B1
        refine ev_ifeq 32 39 d_mo_read_32 (fun c32 => ?_) (fun c32 => ?_)
        · exact absurd c32 (mo_rk hx (by decide))
        · refine ev_iconst_0 35 d_mo_read_35 ?_
          refine ev_goto 36 51 d_mo_read_36 ?_
          refine ev_iret 51 d_mo_read_51 rfl ?_
          exact ⟨_, _, _, rfl, rfl, Or.inr (Or.inl ⟨mo_b1 hy c6, Or.inr (Int32.not_le.mp c21), rfl, rfl⟩), rfl⟩
  · refine ev_iconst_1 9 d_mo_read_9 ?_
    refine ev_goto 10 29 d_mo_read_10 ?_
    refine mo_calli1 29 d_mo_read_29 hZ kc_157 (mt_refuses hZ _) (fun x F1 B1 h => ?_)
    obtain ⟨hx, e1, e2⟩ := h
    subst F1
    subst B1
    refine ev_ifeq 32 39 d_mo_read_32 (fun c32 => ?_) (fun c32 => ?_)
    · exact absurd c32 (mo_rk hx (by decide))
    · refine ev_iconst_0 35 d_mo_read_35 ?_
      refine ev_goto 36 51 d_mo_read_36 ?_
      refine ev_iret 51 d_mo_read_51 rfl ?_
      exact ⟨_, _, _, rfl, rfl, Or.inl ⟨mo_b0 hy c6, rfl, rfl⟩, rfl⟩

def mo_ps (F : Nat → Int32) (B : Nat → Nat → Int32) (i f p : Int32) : Nat → Nat → Int32 := va_up (va_up (va_up (va_up B 30 (upd (B 30) (F 29).toNatClampNeg i)) 31 (upd (B 31) (F 29).toNatClampNeg f)) 32 (upd (B 32) (F 29).toNatClampNeg p)) 15 (upd (B 15) i.toNatClampNeg 1)

set_option maxHeartbeats 4000000 in
set_option maxRecDepth 100000 in
theorem mt_enter {l : Launch} {D : va_G} {tl : List (ClassId × FieldType)} {Z : (Nat → Prop) → State → Heap → Prop} {kI kZ : ClassId} {am : Nat → Nat} {F : Nat → Int32} {B : Nat → Nat → Int32} (hZ : ev_Zok Z) (i : Int32) (hi : (¬ i < 0 ∧ ¬ F 12 ≤ i) → vp_in i 6) (hl : ¬ 0 < F 29 → vp_in (F 29) 6) : MT (mo_π l D cl_A kI kZ tl Z) m_enter 0 0 [.ref (am 60), .int i] (mo_W mo_ci am kI kZ F B) (mo_qv am kI kZ (fun F1 B1 => (¬ (¬ i < 0 ∧ ¬ F 12 ≤ i) ∧ F1 = upd F 0 1 ∧ B1 = B) ∨ ((¬ i < 0 ∧ ¬ F 12 ≤ i) ∧ (0 < F 29 ∨ ¬ B 15 i.toNatClampNeg = 0) ∧ F1 = upd F 0 2 ∧ B1 = B) ∨ ((¬ i < 0 ∧ ¬ F 12 ≤ i) ∧ ¬ 0 < F 29 ∧ B 15 i.toNatClampNeg = 0 ∧ F1 = upd (upd F 0 0) 29 (F 29 + 1) ∧ B1 = mo_ps F B i (-1) (-1)))) := by
  refine mt_of mo_pl rfl (Nat.le_of_ble_eq_true rfl) (ev_eq (lv' := [some (.ref (am 60)), some (.int i)]) ?_)
  refine ev_aload_0 0 d_mo_enter_0 ?_
  refine ev_aload_0 1 d_mo_enter_1 ?_
  refine ev_iload_1 2 d_mo_enter_2 ?_
  refine mo_calli1 3 d_mo_enter_3 hZ kc_197 (mt_isInstance hZ _) (fun y F1 B1 h => ?_)
  obtain ⟨hy, e1, e2⟩ := h
  subst F1
  subst B1
  refine ev_ifne 6 13 d_mo_enter_6 (fun c6 => ?_) (fun c6 => ?_)
  · refine ev_aload_0 13 d_mo_enter_13 ?_
    refine mo_geti 14 29 d_mo_enter_14 lk_208 ?_
    refine ev_ifgt 17 29 d_mo_enter_17 (fun c17 => ?_) (fun c17 => ?_)
    · refine ev_iconst_2 29 d_mo_enter_29 ?_
      refine ev_goto 30 34 d_mo_enter_30 ?_
      refine mo_calli1 34 d_mo_enter_34 hZ kc_157 (mt_refuses hZ _) (fun x F1 B1 h => ?_)
      obtain ⟨hx, e1, e2⟩ := h
      subst F1
      subst B1
      refine ev_ifeq 37 41 d_mo_enter_37 (fun c37 => ?_) (fun c37 => ?_)
      · exact absurd c37 (mo_rk hx (by decide))
      · refine ev_vret 40 d_mo_enter_40 rfl ?_
        exact ⟨_, _, rfl, rfl, Or.inr (Or.inl ⟨mo_b1 hy c6, Or.inl c17, rfl, rfl⟩)⟩
    · refine ev_aload_0 20 d_mo_enter_20 ?_
      refine mo_getr 21 11 15 d_mo_enter_21 lk_43 ?_
      refine ev_iload_1 24 d_mo_enter_24 ?_
      refine mo_ald 25 11 15 d_mo_enter_25 (by exact hi (mo_b1 hy c6)) ?_
      refine ev_ifeq 26 33 d_mo_enter_26 (fun c26 => ?_) (fun c26 => ?_)
      · refine ev_iconst_0 33 d_mo_enter_33 ?_
        refine mo_calli1 34 d_mo_enter_34 hZ kc_157 (mt_refuses hZ _) (fun x F1 B1 h => ?_)
        obtain ⟨hx, e1, e2⟩ := h
        subst F1
        subst B1
        refine ev_ifeq 37 41 d_mo_enter_37 (fun c37 => ?_) (fun c37 => ?_)
        · refine ev_aload_0 41 d_mo_enter_41 ?_
          refine ev_iload_1 42 d_mo_enter_42 ?_
          refine ev_iconst_m1 43 d_mo_enter_43 ?_
          refine ev_iconst_m1 44 d_mo_enter_44 ?_
          refine mo_callv3 45 d_mo_enter_45 hZ kc_211 (mt_push hZ _ _ _ (hl c17) (hi (mo_b1 hy c6))) (fun F1 B1 h => ?_)
          obtain ⟨rfl, rfl⟩ := h
          refine ev_vret 48 d_mo_enter_48 rfl ?_
          exact ⟨_, _, rfl, rfl, Or.inr (Or.inr ⟨mo_b1 hy c6, c17, c26, rfl, rfl⟩)⟩
        · exact absurd (mo_r0 hx) c37
      · refine ev_iconst_2 29 d_mo_enter_29 ?_
        refine ev_goto 30 34 d_mo_enter_30 ?_
        refine mo_calli1 34 d_mo_enter_34 hZ kc_157 (mt_refuses hZ _) (fun x F1 B1 h => ?_)
        obtain ⟨hx, e1, e2⟩ := h
        subst F1
        subst B1
        refine ev_ifeq 37 41 d_mo_enter_37 (fun c37 => ?_) (fun c37 => ?_)
        · exact absurd c37 (mo_rk hx (by decide))
        · refine ev_vret 40 d_mo_enter_40 rfl ?_
          exact ⟨_, _, rfl, rfl, Or.inr (Or.inl ⟨mo_b1 hy c6, Or.inr c26, rfl, rfl⟩)⟩
  · refine ev_iconst_1 9 d_mo_enter_9 ?_
    refine ev_goto 10 34 d_mo_enter_10 ?_
    refine mo_calli1 34 d_mo_enter_34 hZ kc_157 (mt_refuses hZ _) (fun x F1 B1 h => ?_)
    obtain ⟨hx, e1, e2⟩ := h
    subst F1
    subst B1
    refine ev_ifeq 37 41 d_mo_enter_37 (fun c37 => ?_) (fun c37 => ?_)
    · exact absurd c37 (mo_rk hx (by decide))
    · refine ev_vret 40 d_mo_enter_40 rfl ?_
      exact ⟨_, _, rfl, rfl, Or.inl ⟨mo_b0 hy c6, rfl, rfl⟩⟩

set_option maxHeartbeats 4000000 in
set_option maxRecDepth 100000 in
theorem mt_leave {l : Launch} {D : va_G} {tl : List (ClassId × FieldType)} {Z : (Nat → Prop) → State → Heap → Prop} {kI kZ : ClassId} {am : Nat → Nat} {F : Nat → Int32} {B : Nat → Nat → Int32} (hZ : ev_Zok Z) (hr : vp_in (B 30 0) 6) : MT (mo_π l D cl_A kI kZ tl Z) m_leave 0 0 [.ref (am 60)] (mo_W mo_ci am kI kZ F B) (mo_qv am kI kZ (fun F1 B1 => (¬ F 29 = 1 ∧ F1 = upd F 0 1 ∧ B1 = B) ∨ (F 29 = 1 ∧ F1 = upd (upd F 0 0) 29 0 ∧ B1 = va_up (va_up B 15 (upd (B 15) (B 30 0).toNatClampNeg 0)) 14 (upd (B 14) (B 30 0).toNatClampNeg 128)))) := by
  refine mt_of mo_pl rfl (Nat.le_of_ble_eq_true rfl) (ev_eq (lv' := [some (.ref (am 60))]) ?_)
  refine ev_aload_0 0 d_mo_leave_0 ?_
  refine ev_aload_0 1 d_mo_leave_1 ?_
  refine mo_geti 2 29 d_mo_leave_2 lk_208 ?_
  refine ev_iconst_1 5 d_mo_leave_5 ?_
  refine ev_icmpeq 6 13 d_mo_leave_6 (fun c6 => ?_) (fun c6 => ?_)
  · refine ev_iconst_0 13 d_mo_leave_13 ?_
    refine mo_calli1 14 d_mo_leave_14 hZ kc_157 (mt_refuses hZ _) (fun x F1 B1 h => ?_)
    obtain ⟨hx, e1, e2⟩ := h
    subst F1
    subst B1
    refine ev_ifeq 17 21 d_mo_leave_17 (fun c17 => ?_) (fun c17 => ?_)
    · refine ev_aload_0 21 d_mo_leave_21 ?_
      refine ev_iconst_0 22 d_mo_leave_22 ?_
      refine mo_puti 23 29 d_mo_leave_23 lp_208 ?_
      refine ev_aload_0 26 d_mo_leave_26 ?_
      refine mo_getr 27 11 15 d_mo_leave_27 lk_43 ?_
      refine ev_aload_0 30 d_mo_leave_30 ?_
      refine mo_getr 31 23 30 d_mo_leave_31 lk_80 ?_
      refine ev_iconst_0 34 d_mo_leave_34 ?_
      refine ev_topi (nI (0)) (by rfl) ?_
      refine mo_aldn (j := 0) 35 23 30 d_mo_leave_35 (by decide) ?_
      refine ev_iconst_0 36 d_mo_leave_36 ?_
      refine mo_ast 37 11 15 d_mo_leave_37 (by exact hr) ?_
      refine ev_aload_0 38 d_mo_leave_38 ?_
      refine mo_getr 39 10 14 d_mo_leave_39 lk_40 ?_
      refine ev_aload_0 42 d_mo_leave_42 ?_
      refine mo_getr 43 23 30 d_mo_leave_43 lk_80 ?_
      refine ev_iconst_0 46 d_mo_leave_46 ?_
      refine ev_topi (nI (0)) (by rfl) ?_
      refine mo_aldn (j := 0) 47 23 30 d_mo_leave_47 (by decide) ?_
      refine ev_sipush (128) 48 d_mo_leave_48 (by decide) ?_
      refine mo_ast 51 10 14 d_mo_leave_51 (by exact hr) ?_
      refine ev_vret 52 d_mo_leave_52 rfl ?_
      exact ⟨_, _, rfl, rfl, Or.inr ⟨c6, rfl, rfl⟩⟩
    · exact absurd (mo_r0 hx) c17
  · refine ev_iconst_1 9 d_mo_leave_9 ?_
    refine ev_goto 10 14 d_mo_leave_10 ?_
    refine mo_calli1 14 d_mo_leave_14 hZ kc_157 (mt_refuses hZ _) (fun x F1 B1 h => ?_)
    obtain ⟨hx, e1, e2⟩ := h
    subst F1
    subst B1
    refine ev_ifeq 17 21 d_mo_leave_17 (fun c17 => ?_) (fun c17 => ?_)
    · exact absurd c17 (mo_rk hx (by decide))
    · refine ev_vret 20 d_mo_leave_20 rfl ?_
      exact ⟨_, _, rfl, rfl, Or.inl ⟨c6, rfl, rfl⟩⟩

set_option maxHeartbeats 4000000 in
set_option maxRecDepth 100000 in
theorem mt_latest {l : Launch} {D : va_G} {tl : List (ClassId × FieldType)} {Z : (Nat → Prop) → State → Heap → Prop} {kI kZ : ClassId} {am : Nat → Nat} {F : Nat → Int32} {B : Nat → Nat → Int32} (hZ : ev_Zok Z) (w : Int32)  : MT (mo_π l D cl_A kI kZ tl Z) m_latest 0 0 [.ref (am 60), .int w] (mo_W mo_ci am kI kZ F B) (mo_qi am kI kZ (fun x F1 B1 => (((w < 0 ∨ 2 < w) ∧ x = 0 ∧ F1 = upd F 0 1) ∨ (¬ w < 0 ∧ ¬ 2 < w ∧ x = (if w = 0 then F 33 else if w = 1 then F 34 else F 35) ∧ F1 = upd F 0 0)) ∧ B1 = B)) := by
  refine mt_of mo_pl rfl (Nat.le_of_ble_eq_true rfl) (ev_eq (lv' := [some (.ref (am 60)), some (.int w)]) ?_)
  refine ev_aload_0 0 d_mo_latest_0 ?_
  refine ev_iload_1 1 d_mo_latest_1 ?_
  refine ev_iflt 2 10 d_mo_latest_2 (fun c2 => ?_) (fun c2 => ?_)
  · refine ev_iconst_1 10 d_mo_latest_10 ?_
    refine ev_goto 11 15 d_mo_latest_11 ?_
    refine mo_calli1 15 d_mo_latest_15 hZ kc_157 (mt_refuses hZ _) (fun x F1 B1 h => ?_)
    obtain ⟨hx, e1, e2⟩ := h
    subst F1
    subst B1
    refine ev_ifeq 18 23 d_mo_latest_18 (fun c18 => ?_) (fun c18 => ?_)
    · exact absurd c18 (mo_rk hx (by decide))
    · refine ev_iconst_0 21 d_mo_latest_21 ?_
      refine ev_iret 22 d_mo_latest_22 rfl ?_
      exact ⟨_, _, _, rfl, rfl, Or.inl ⟨Or.inl c2, rfl, rfl⟩, rfl⟩
  · refine ev_iload_1 5 d_mo_latest_5 ?_
    refine ev_iconst_2 6 d_mo_latest_6 ?_
    refine ev_icmple 7 14 d_mo_latest_7 (fun c7 => ?_) (fun c7 => ?_)
    · refine ev_iconst_0 14 d_mo_latest_14 ?_
      refine mo_calli1 15 d_mo_latest_15 hZ kc_157 (mt_refuses hZ _) (fun x F1 B1 h => ?_)
      obtain ⟨hx, e1, e2⟩ := h
      subst F1
      subst B1
      refine ev_ifeq 18 23 d_mo_latest_18 (fun c18 => ?_) (fun c18 => ?_)
      · refine ev_iload_1 23 d_mo_latest_23 ?_
        refine ev_ifne 24 34 d_mo_latest_24 (fun c24 => ?_) (fun c24 => ?_)
        · refine ev_iload_1 34 d_mo_latest_34 ?_
          refine ev_iconst_1 35 d_mo_latest_35 ?_
          refine ev_icmpne 36 46 d_mo_latest_36 (fun c36 => ?_) (fun c36 => ?_)
          · refine ev_aload_0 46 d_mo_latest_46 ?_
            refine mo_geti 47 35 d_mo_latest_47 lk_89 ?_
            refine ev_iret 50 d_mo_latest_50 rfl ?_
            exact ⟨_, _, _, rfl, rfl, Or.inr ⟨c2, Int32.not_lt.mpr c7, by rw [if_neg c24, if_neg c36]; rfl, rfl⟩, rfl⟩
          · refine ev_aload_0 39 d_mo_latest_39 ?_
            refine mo_geti 40 34 d_mo_latest_40 lk_281 ?_
            refine ev_goto 43 50 d_mo_latest_43 ?_
            refine ev_iret 50 d_mo_latest_50 rfl ?_
            exact ⟨_, _, _, rfl, rfl, Or.inr ⟨c2, Int32.not_lt.mpr c7, by rw [if_neg c24, if_pos c36]; rfl, rfl⟩, rfl⟩
        · refine ev_aload_0 27 d_mo_latest_27 ?_
          refine mo_geti 28 33 d_mo_latest_28 lk_278 ?_
          refine ev_goto 31 50 d_mo_latest_31 ?_
          refine ev_iret 50 d_mo_latest_50 rfl ?_
          exact ⟨_, _, _, rfl, rfl, Or.inr ⟨c2, Int32.not_lt.mpr c7, by rw [if_pos c24]; rfl, rfl⟩, rfl⟩
      · exact absurd (mo_r0 hx) c18
    · refine ev_iconst_1 10 d_mo_latest_10 ?_
      refine ev_goto 11 15 d_mo_latest_11 ?_
      refine mo_calli1 15 d_mo_latest_15 hZ kc_157 (mt_refuses hZ _) (fun x F1 B1 h => ?_)
      obtain ⟨hx, e1, e2⟩ := h
      subst F1
      subst B1
      refine ev_ifeq 18 23 d_mo_latest_18 (fun c18 => ?_) (fun c18 => ?_)
      · exact absurd c18 (mo_rk hx (by decide))
      · refine ev_iconst_0 21 d_mo_latest_21 ?_
        refine ev_iret 22 d_mo_latest_22 rfl ?_
        exact ⟨_, _, _, rfl, rfl, Or.inl ⟨Or.inr (Int32.not_le.mp c7), rfl, rfl⟩, rfl⟩
end
section
theorem d_mo_make_0 : decode c_mo_make 0 = .ok (.aload_n 0, 1) := by decide +kernel
theorem d_mo_make_1 : decode c_mo_make 1 = .ok (.aload_n 0, 1) := by decide +kernel
theorem d_mo_make_2 : decode c_mo_make 2 = .ok (.getfield 208, 3) := by decide +kernel
theorem d_mo_make_5 : decode c_mo_make 5 = .ok (.ifCond .ne 7, 3) := by decide +kernel
theorem d_mo_make_8 : decode c_mo_make 8 = .ok (.iconst 1, 1) := by decide +kernel
theorem d_mo_make_9 : decode c_mo_make 9 = .ok (.goto 39, 3) := by decide +kernel
theorem d_mo_make_12 : decode c_mo_make 12 = .ok (.iload_n 1, 1) := by decide +kernel
theorem d_mo_make_13 : decode c_mo_make 13 = .ok (.ifCond .lt 8, 3) := by decide +kernel
theorem d_mo_make_16 : decode c_mo_make 16 = .ok (.iload_n 1, 1) := by decide +kernel
theorem d_mo_make_17 : decode c_mo_make 17 = .ok (.iconst 3, 1) := by decide +kernel
theorem d_mo_make_18 : decode c_mo_make 18 = .ok (.if_icmp .le 7, 3) := by decide +kernel
theorem d_mo_make_21 : decode c_mo_make 21 = .ok (.iconst 2, 1) := by decide +kernel
theorem d_mo_make_22 : decode c_mo_make 22 = .ok (.goto 26, 3) := by decide +kernel
theorem d_mo_make_25 : decode c_mo_make 25 = .ok (.aload_n 0, 1) := by decide +kernel
theorem d_mo_make_26 : decode c_mo_make 26 = .ok (.aload_n 0, 1) := by decide +kernel
theorem d_mo_make_27 : decode c_mo_make 27 = .ok (.getfield 80, 3) := by decide +kernel
theorem d_mo_make_30 : decode c_mo_make 30 = .ok (.aload_n 0, 1) := by decide +kernel
theorem d_mo_make_31 : decode c_mo_make 31 = .ok (.getfield 208, 3) := by decide +kernel
theorem d_mo_make_34 : decode c_mo_make 34 = .ok (.iconst 1, 1) := by decide +kernel
theorem d_mo_make_35 : decode c_mo_make 35 = .ok (.isub, 1) := by decide +kernel
theorem d_mo_make_36 : decode c_mo_make 36 = .ok (.iaload, 1) := by decide +kernel
theorem d_mo_make_37 : decode c_mo_make 37 = .ok (.invokevirtual 215, 3) := by decide +kernel
theorem d_mo_make_40 : decode c_mo_make 40 = .ok (.ifCond .ne 7, 3) := by decide +kernel
theorem d_mo_make_43 : decode c_mo_make 43 = .ok (.iconst 3, 1) := by decide +kernel
theorem d_mo_make_44 : decode c_mo_make 44 = .ok (.goto 4, 3) := by decide +kernel
theorem d_mo_make_47 : decode c_mo_make 47 = .ok (.iconst 0, 1) := by decide +kernel
theorem d_mo_make_48 : decode c_mo_make 48 = .ok (.invokevirtual 157, 3) := by decide +kernel
theorem d_mo_make_51 : decode c_mo_make 51 = .ok (.ifCond .eq 5, 3) := by decide +kernel
theorem d_mo_make_54 : decode c_mo_make 54 = .ok (.iconst 0, 1) := by decide +kernel
theorem d_mo_make_55 : decode c_mo_make 55 = .ok (.ireturn, 1) := by decide +kernel
theorem d_mo_make_56 : decode c_mo_make 56 = .ok (.aload_n 0, 1) := by decide +kernel
theorem d_mo_make_57 : decode c_mo_make 57 = .ok (.aload_n 0, 1) := by decide +kernel
theorem d_mo_make_58 : decode c_mo_make 58 = .ok (.getfield 80, 3) := by decide +kernel
theorem d_mo_make_61 : decode c_mo_make 61 = .ok (.aload_n 0, 1) := by decide +kernel
theorem d_mo_make_62 : decode c_mo_make 62 = .ok (.getfield 208, 3) := by decide +kernel
theorem d_mo_make_65 : decode c_mo_make 65 = .ok (.iconst 1, 1) := by decide +kernel
theorem d_mo_make_66 : decode c_mo_make 66 = .ok (.isub, 1) := by decide +kernel
theorem d_mo_make_67 : decode c_mo_make 67 = .ok (.iaload, 1) := by decide +kernel
theorem d_mo_make_68 : decode c_mo_make 68 = .ok (.invokevirtual 215, 3) := by decide +kernel
theorem d_mo_make_71 : decode c_mo_make 71 = .ok (.istore_n 2, 1) := by decide +kernel
theorem d_mo_make_72 : decode c_mo_make 72 = .ok (.bipush 17, 2) := by decide +kernel
theorem d_mo_make_74 : decode c_mo_make 74 = .ok (.aload_n 0, 1) := by decide +kernel
theorem d_mo_make_75 : decode c_mo_make 75 = .ok (.getfield 80, 3) := by decide +kernel
theorem d_mo_make_78 : decode c_mo_make 78 = .ok (.aload_n 0, 1) := by decide +kernel
theorem d_mo_make_79 : decode c_mo_make 79 = .ok (.getfield 208, 3) := by decide +kernel
theorem d_mo_make_82 : decode c_mo_make 82 = .ok (.iconst 1, 1) := by decide +kernel
theorem d_mo_make_83 : decode c_mo_make 83 = .ok (.isub, 1) := by decide +kernel
theorem d_mo_make_84 : decode c_mo_make 84 = .ok (.iaload, 1) := by decide +kernel
theorem d_mo_make_85 : decode c_mo_make 85 = .ok (.imul, 1) := by decide +kernel
theorem d_mo_make_86 : decode c_mo_make 86 = .ok (.iload_n 2, 1) := by decide +kernel
theorem d_mo_make_87 : decode c_mo_make 87 = .ok (.iadd, 1) := by decide +kernel
theorem d_mo_make_88 : decode c_mo_make 88 = .ok (.istore_n 3, 1) := by decide +kernel
theorem d_mo_make_89 : decode c_mo_make 89 = .ok (.aload_n 0, 1) := by decide +kernel
theorem d_mo_make_90 : decode c_mo_make 90 = .ok (.getfield 46, 3) := by decide +kernel
theorem d_mo_make_93 : decode c_mo_make 93 = .ok (.iload_n 3, 1) := by decide +kernel
theorem d_mo_make_94 : decode c_mo_make 94 = .ok (.iconst 1, 1) := by decide +kernel
theorem d_mo_make_95 : decode c_mo_make 95 = .ok (.bastore, 1) := by decide +kernel
theorem d_mo_make_96 : decode c_mo_make 96 = .ok (.aload_n 0, 1) := by decide +kernel
theorem d_mo_make_97 : decode c_mo_make 97 = .ok (.getfield 53, 3) := by decide +kernel
theorem d_mo_make_100 : decode c_mo_make 100 = .ok (.iload_n 3, 1) := by decide +kernel
theorem d_mo_make_101 : decode c_mo_make 101 = .ok (.iconst 1, 1) := by decide +kernel
theorem d_mo_make_102 : decode c_mo_make 102 = .ok (.bastore, 1) := by decide +kernel
theorem d_mo_make_103 : decode c_mo_make 103 = .ok (.aload_n 0, 1) := by decide +kernel
theorem d_mo_make_104 : decode c_mo_make 104 = .ok (.getfield 50, 3) := by decide +kernel
theorem d_mo_make_107 : decode c_mo_make 107 = .ok (.iload_n 3, 1) := by decide +kernel
theorem d_mo_make_108 : decode c_mo_make 108 = .ok (.aload_n 0, 1) := by decide +kernel
theorem d_mo_make_109 : decode c_mo_make 109 = .ok (.getfield 218, 3) := by decide +kernel
theorem d_mo_make_112 : decode c_mo_make 112 = .ok (.iastore, 1) := by decide +kernel
theorem d_mo_make_113 : decode c_mo_make 113 = .ok (.aload_n 0, 1) := by decide +kernel
theorem d_mo_make_114 : decode c_mo_make 114 = .ok (.getfield 65, 3) := by decide +kernel
theorem d_mo_make_117 : decode c_mo_make 117 = .ok (.aload_n 0, 1) := by decide +kernel
theorem d_mo_make_118 : decode c_mo_make 118 = .ok (.getfield 218, 3) := by decide +kernel
theorem d_mo_make_121 : decode c_mo_make 121 = .ok (.iload_n 1, 1) := by decide +kernel
theorem d_mo_make_122 : decode c_mo_make 122 = .ok (.iastore, 1) := by decide +kernel
theorem d_mo_make_123 : decode c_mo_make 123 = .ok (.aload_n 0, 1) := by decide +kernel
theorem d_mo_make_124 : decode c_mo_make 124 = .ok (.dup, 1) := by decide +kernel
theorem d_mo_make_125 : decode c_mo_make 125 = .ok (.getfield 218, 3) := by decide +kernel
theorem d_mo_make_128 : decode c_mo_make 128 = .ok (.iconst 1, 1) := by decide +kernel
theorem d_mo_make_129 : decode c_mo_make 129 = .ok (.iadd, 1) := by decide +kernel
theorem d_mo_make_130 : decode c_mo_make 130 = .ok (.putfield 218, 3) := by decide +kernel
theorem d_mo_make_133 : decode c_mo_make 133 = .ok (.iload_n 2, 1) := by decide +kernel
theorem d_mo_make_134 : decode c_mo_make 134 = .ok (.ireturn, 1) := by decide +kernel
theorem d_mo_drop_0 : decode c_mo_drop 0 = .ok (.aload_n 0, 1) := by decide +kernel
theorem d_mo_drop_1 : decode c_mo_drop 1 = .ok (.getfield 208, 3) := by decide +kernel
theorem d_mo_drop_4 : decode c_mo_drop 4 = .ok (.ifCond .le 42, 3) := by decide +kernel
theorem d_mo_drop_7 : decode c_mo_drop 7 = .ok (.iload_n 1, 1) := by decide +kernel
theorem d_mo_drop_8 : decode c_mo_drop 8 = .ok (.iconst 1, 1) := by decide +kernel
theorem d_mo_drop_9 : decode c_mo_drop 9 = .ok (.if_icmp .lt 37, 3) := by decide +kernel
theorem d_mo_drop_12 : decode c_mo_drop 12 = .ok (.iload_n 1, 1) := by decide +kernel
theorem d_mo_drop_13 : decode c_mo_drop 13 = .ok (.bipush 16, 2) := by decide +kernel
theorem d_mo_drop_15 : decode c_mo_drop 15 = .ok (.if_icmp .gt 31, 3) := by decide +kernel
theorem d_mo_drop_18 : decode c_mo_drop 18 = .ok (.aload_n 0, 1) := by decide +kernel
theorem d_mo_drop_19 : decode c_mo_drop 19 = .ok (.getfield 46, 3) := by decide +kernel
theorem d_mo_drop_22 : decode c_mo_drop 22 = .ok (.bipush 17, 2) := by decide +kernel
theorem d_mo_drop_24 : decode c_mo_drop 24 = .ok (.aload_n 0, 1) := by decide +kernel
theorem d_mo_drop_25 : decode c_mo_drop 25 = .ok (.getfield 80, 3) := by decide +kernel
theorem d_mo_drop_28 : decode c_mo_drop 28 = .ok (.aload_n 0, 1) := by decide +kernel
theorem d_mo_drop_29 : decode c_mo_drop 29 = .ok (.getfield 208, 3) := by decide +kernel
theorem d_mo_drop_32 : decode c_mo_drop 32 = .ok (.iconst 1, 1) := by decide +kernel
theorem d_mo_drop_33 : decode c_mo_drop 33 = .ok (.isub, 1) := by decide +kernel
theorem d_mo_drop_34 : decode c_mo_drop 34 = .ok (.iaload, 1) := by decide +kernel
theorem d_mo_drop_35 : decode c_mo_drop 35 = .ok (.imul, 1) := by decide +kernel
theorem d_mo_drop_36 : decode c_mo_drop 36 = .ok (.iload_n 1, 1) := by decide +kernel
theorem d_mo_drop_37 : decode c_mo_drop 37 = .ok (.iadd, 1) := by decide +kernel
theorem d_mo_drop_38 : decode c_mo_drop 38 = .ok (.baload, 1) := by decide +kernel
theorem d_mo_drop_39 : decode c_mo_drop 39 = .ok (.ifCond .eq 7, 3) := by decide +kernel
theorem d_mo_drop_42 : decode c_mo_drop 42 = .ok (.iconst 1, 1) := by decide +kernel
theorem d_mo_drop_43 : decode c_mo_drop 43 = .ok (.goto 4, 3) := by decide +kernel
theorem d_mo_drop_46 : decode c_mo_drop 46 = .ok (.iconst 0, 1) := by decide +kernel
theorem d_mo_drop_47 : decode c_mo_drop 47 = .ok (.istore_n 2, 1) := by decide +kernel
theorem d_mo_drop_48 : decode c_mo_drop 48 = .ok (.aload_n 0, 1) := by decide +kernel
theorem d_mo_drop_49 : decode c_mo_drop 49 = .ok (.aload_n 0, 1) := by decide +kernel
theorem d_mo_drop_50 : decode c_mo_drop 50 = .ok (.getfield 208, 3) := by decide +kernel
theorem d_mo_drop_53 : decode c_mo_drop 53 = .ok (.ifCond .ne 7, 3) := by decide +kernel
theorem d_mo_drop_56 : decode c_mo_drop 56 = .ok (.iconst 1, 1) := by decide +kernel
theorem d_mo_drop_57 : decode c_mo_drop 57 = .ok (.goto 39, 3) := by decide +kernel
theorem d_mo_drop_60 : decode c_mo_drop 60 = .ok (.iload_n 2, 1) := by decide +kernel
theorem d_mo_drop_61 : decode c_mo_drop 61 = .ok (.ifCond .ne 7, 3) := by decide +kernel
theorem d_mo_drop_64 : decode c_mo_drop 64 = .ok (.iconst 2, 1) := by decide +kernel
theorem d_mo_drop_65 : decode c_mo_drop 65 = .ok (.goto 31, 3) := by decide +kernel
theorem d_mo_drop_68 : decode c_mo_drop 68 = .ok (.aload_n 0, 1) := by decide +kernel
theorem d_mo_drop_69 : decode c_mo_drop 69 = .ok (.bipush 17, 2) := by decide +kernel
theorem d_mo_drop_71 : decode c_mo_drop 71 = .ok (.aload_n 0, 1) := by decide +kernel
theorem d_mo_drop_72 : decode c_mo_drop 72 = .ok (.getfield 80, 3) := by decide +kernel
theorem d_mo_drop_75 : decode c_mo_drop 75 = .ok (.aload_n 0, 1) := by decide +kernel
theorem d_mo_drop_76 : decode c_mo_drop 76 = .ok (.getfield 208, 3) := by decide +kernel
theorem d_mo_drop_79 : decode c_mo_drop 79 = .ok (.iconst 1, 1) := by decide +kernel
theorem d_mo_drop_80 : decode c_mo_drop 80 = .ok (.isub, 1) := by decide +kernel
theorem d_mo_drop_81 : decode c_mo_drop 81 = .ok (.iaload, 1) := by decide +kernel
theorem d_mo_drop_82 : decode c_mo_drop 82 = .ok (.imul, 1) := by decide +kernel
theorem d_mo_drop_83 : decode c_mo_drop 83 = .ok (.iload_n 1, 1) := by decide +kernel
theorem d_mo_drop_84 : decode c_mo_drop 84 = .ok (.iadd, 1) := by decide +kernel
theorem d_mo_drop_85 : decode c_mo_drop 85 = .ok (.invokevirtual 221, 3) := by decide +kernel
theorem d_mo_drop_88 : decode c_mo_drop 88 = .ok (.ifCond .le 7, 3) := by decide +kernel
theorem d_mo_drop_91 : decode c_mo_drop 91 = .ok (.iconst 3, 1) := by decide +kernel
theorem d_mo_drop_92 : decode c_mo_drop 92 = .ok (.goto 4, 3) := by decide +kernel
theorem d_mo_drop_95 : decode c_mo_drop 95 = .ok (.iconst 0, 1) := by decide +kernel
theorem d_mo_drop_96 : decode c_mo_drop 96 = .ok (.invokevirtual 157, 3) := by decide +kernel
theorem d_mo_drop_99 : decode c_mo_drop 99 = .ok (.ifCond .eq 5, 3) := by decide +kernel
theorem d_mo_drop_102 : decode c_mo_drop 102 = .ok (.iconst 0, 1) := by decide +kernel
theorem d_mo_drop_103 : decode c_mo_drop 103 = .ok (.ireturn, 1) := by decide +kernel
theorem d_mo_drop_104 : decode c_mo_drop 104 = .ok (.bipush 17, 2) := by decide +kernel
theorem d_mo_drop_106 : decode c_mo_drop 106 = .ok (.aload_n 0, 1) := by decide +kernel
theorem d_mo_drop_107 : decode c_mo_drop 107 = .ok (.getfield 80, 3) := by decide +kernel
theorem d_mo_drop_110 : decode c_mo_drop 110 = .ok (.aload_n 0, 1) := by decide +kernel
theorem d_mo_drop_111 : decode c_mo_drop 111 = .ok (.getfield 208, 3) := by decide +kernel
theorem d_mo_drop_114 : decode c_mo_drop 114 = .ok (.iconst 1, 1) := by decide +kernel
theorem d_mo_drop_115 : decode c_mo_drop 115 = .ok (.isub, 1) := by decide +kernel
theorem d_mo_drop_116 : decode c_mo_drop 116 = .ok (.iaload, 1) := by decide +kernel
theorem d_mo_drop_117 : decode c_mo_drop 117 = .ok (.imul, 1) := by decide +kernel
theorem d_mo_drop_118 : decode c_mo_drop 118 = .ok (.iload_n 1, 1) := by decide +kernel
theorem d_mo_drop_119 : decode c_mo_drop 119 = .ok (.iadd, 1) := by decide +kernel
theorem d_mo_drop_120 : decode c_mo_drop 120 = .ok (.istore_n 3, 1) := by decide +kernel
theorem d_mo_drop_121 : decode c_mo_drop 121 = .ok (.aload_n 0, 1) := by decide +kernel
theorem d_mo_drop_122 : decode c_mo_drop 122 = .ok (.getfield 46, 3) := by decide +kernel
theorem d_mo_drop_125 : decode c_mo_drop 125 = .ok (.iload_n 3, 1) := by decide +kernel
theorem d_mo_drop_126 : decode c_mo_drop 126 = .ok (.iconst 0, 1) := by decide +kernel
theorem d_mo_drop_127 : decode c_mo_drop 127 = .ok (.bastore, 1) := by decide +kernel
theorem d_mo_drop_128 : decode c_mo_drop 128 = .ok (.aload_n 0, 1) := by decide +kernel
theorem d_mo_drop_129 : decode c_mo_drop 129 = .ok (.getfield 53, 3) := by decide +kernel
theorem d_mo_drop_132 : decode c_mo_drop 132 = .ok (.iload_n 3, 1) := by decide +kernel
theorem d_mo_drop_133 : decode c_mo_drop 133 = .ok (.baload, 1) := by decide +kernel
theorem d_mo_drop_134 : decode c_mo_drop 134 = .ok (.ifCond .eq 15, 3) := by decide +kernel
theorem d_mo_drop_137 : decode c_mo_drop 137 = .ok (.aload_n 0, 1) := by decide +kernel
theorem d_mo_drop_138 : decode c_mo_drop 138 = .ok (.getfield 68, 3) := by decide +kernel
theorem d_mo_drop_141 : decode c_mo_drop 141 = .ok (.aload_n 0, 1) := by decide +kernel
theorem d_mo_drop_142 : decode c_mo_drop 142 = .ok (.getfield 50, 3) := by decide +kernel
theorem d_mo_drop_145 : decode c_mo_drop 145 = .ok (.iload_n 3, 1) := by decide +kernel
theorem d_mo_drop_146 : decode c_mo_drop 146 = .ok (.iaload, 1) := by decide +kernel
theorem d_mo_drop_147 : decode c_mo_drop 147 = .ok (.iconst 1, 1) := by decide +kernel
theorem d_mo_drop_148 : decode c_mo_drop 148 = .ok (.bastore, 1) := by decide +kernel
theorem d_mo_drop_149 : decode c_mo_drop 149 = .ok (.aload_n 0, 1) := by decide +kernel
theorem d_mo_drop_150 : decode c_mo_drop 150 = .ok (.getfield 53, 3) := by decide +kernel
theorem d_mo_drop_153 : decode c_mo_drop 153 = .ok (.iload_n 3, 1) := by decide +kernel
theorem d_mo_drop_154 : decode c_mo_drop 154 = .ok (.baload, 1) := by decide +kernel
theorem d_mo_drop_155 : decode c_mo_drop 155 = .ok (.ireturn, 1) := by decide +kernel
theorem d_mo_handle_0 : decode c_mo_handle 0 = .ok (.aload_n 0, 1) := by decide +kernel
theorem d_mo_handle_1 : decode c_mo_handle 1 = .ok (.aload_n 0, 1) := by decide +kernel
theorem d_mo_handle_2 : decode c_mo_handle 2 = .ok (.iload_n 1, 1) := by decide +kernel
theorem d_mo_handle_3 : decode c_mo_handle 3 = .ok (.invokevirtual 197, 3) := by decide +kernel
theorem d_mo_handle_6 : decode c_mo_handle 6 = .ok (.ifCond .eq 23, 3) := by decide +kernel
theorem d_mo_handle_9 : decode c_mo_handle 9 = .ok (.iload_n 2, 1) := by decide +kernel
theorem d_mo_handle_10 : decode c_mo_handle 10 = .ok (.iconst 1, 1) := by decide +kernel
theorem d_mo_handle_11 : decode c_mo_handle 11 = .ok (.if_icmp .lt 18, 3) := by decide +kernel
theorem d_mo_handle_14 : decode c_mo_handle 14 = .ok (.iload_n 2, 1) := by decide +kernel
theorem d_mo_handle_15 : decode c_mo_handle 15 = .ok (.bipush 16, 2) := by decide +kernel
theorem d_mo_handle_17 : decode c_mo_handle 17 = .ok (.if_icmp .gt 12, 3) := by decide +kernel
theorem d_mo_handle_20 : decode c_mo_handle 20 = .ok (.iload_n 3, 1) := by decide +kernel
theorem d_mo_handle_21 : decode c_mo_handle 21 = .ok (.ifCond .lt 8, 3) := by decide +kernel
theorem d_mo_handle_24 : decode c_mo_handle 24 = .ok (.iload_n 3, 1) := by decide +kernel
theorem d_mo_handle_25 : decode c_mo_handle 25 = .ok (.iconst 3, 1) := by decide +kernel
theorem d_mo_handle_26 : decode c_mo_handle 26 = .ok (.if_icmp .le 7, 3) := by decide +kernel
theorem d_mo_handle_29 : decode c_mo_handle 29 = .ok (.iconst 1, 1) := by decide +kernel
theorem d_mo_handle_30 : decode c_mo_handle 30 = .ok (.goto 4, 3) := by decide +kernel
theorem d_mo_handle_33 : decode c_mo_handle 33 = .ok (.iconst 0, 1) := by decide +kernel
theorem d_mo_handle_34 : decode c_mo_handle 34 = .ok (.invokevirtual 157, 3) := by decide +kernel
theorem d_mo_handle_37 : decode c_mo_handle 37 = .ok (.ifCond .eq 5, 3) := by decide +kernel
theorem d_mo_handle_40 : decode c_mo_handle 40 = .ok (.iconst 0, 1) := by decide +kernel
theorem d_mo_handle_41 : decode c_mo_handle 41 = .ok (.ireturn, 1) := by decide +kernel
theorem d_mo_handle_42 : decode c_mo_handle 42 = .ok (.bipush 17, 2) := by decide +kernel
theorem d_mo_handle_44 : decode c_mo_handle 44 = .ok (.iload_n 1, 1) := by decide +kernel
theorem d_mo_handle_45 : decode c_mo_handle 45 = .ok (.imul, 1) := by decide +kernel
theorem d_mo_handle_46 : decode c_mo_handle 46 = .ok (.iload_n 2, 1) := by decide +kernel
theorem d_mo_handle_47 : decode c_mo_handle 47 = .ok (.iadd, 1) := by decide +kernel
theorem d_mo_handle_48 : decode c_mo_handle 48 = .ok (.istore 4, 2) := by decide +kernel
theorem d_mo_handle_50 : decode c_mo_handle 50 = .ok (.aload_n 0, 1) := by decide +kernel
theorem d_mo_handle_51 : decode c_mo_handle 51 = .ok (.getfield 46, 3) := by decide +kernel
theorem d_mo_handle_54 : decode c_mo_handle 54 = .ok (.iload 4, 2) := by decide +kernel
theorem d_mo_handle_56 : decode c_mo_handle 56 = .ok (.baload, 1) := by decide +kernel
theorem d_mo_handle_57 : decode c_mo_handle 57 = .ok (.ifCond .ne 5, 3) := by decide +kernel
theorem d_mo_handle_60 : decode c_mo_handle 60 = .ok (.iconst (-1), 1) := by decide +kernel
theorem d_mo_handle_61 : decode c_mo_handle 61 = .ok (.ireturn, 1) := by decide +kernel
theorem d_mo_handle_62 : decode c_mo_handle 62 = .ok (.iload_n 3, 1) := by decide +kernel
theorem d_mo_handle_63 : decode c_mo_handle 63 = .ok (.ifCond .ne 13, 3) := by decide +kernel
theorem d_mo_handle_66 : decode c_mo_handle 66 = .ok (.aload_n 0, 1) := by decide +kernel
theorem d_mo_handle_67 : decode c_mo_handle 67 = .ok (.getfield 50, 3) := by decide +kernel
theorem d_mo_handle_70 : decode c_mo_handle 70 = .ok (.iload 4, 2) := by decide +kernel
theorem d_mo_handle_72 : decode c_mo_handle 72 = .ok (.iaload, 1) := by decide +kernel
theorem d_mo_handle_73 : decode c_mo_handle 73 = .ok (.goto 52, 3) := by decide +kernel
theorem d_mo_handle_76 : decode c_mo_handle 76 = .ok (.iload_n 3, 1) := by decide +kernel
theorem d_mo_handle_77 : decode c_mo_handle 77 = .ok (.iconst 1, 1) := by decide +kernel
theorem d_mo_handle_78 : decode c_mo_handle 78 = .ok (.if_icmp .ne 18, 3) := by decide +kernel
theorem d_mo_handle_81 : decode c_mo_handle 81 = .ok (.aload_n 0, 1) := by decide +kernel
theorem d_mo_handle_82 : decode c_mo_handle 82 = .ok (.getfield 65, 3) := by decide +kernel
theorem d_mo_handle_85 : decode c_mo_handle 85 = .ok (.aload_n 0, 1) := by decide +kernel
theorem d_mo_handle_86 : decode c_mo_handle 86 = .ok (.getfield 50, 3) := by decide +kernel
theorem d_mo_handle_89 : decode c_mo_handle 89 = .ok (.iload 4, 2) := by decide +kernel
theorem d_mo_handle_91 : decode c_mo_handle 91 = .ok (.iaload, 1) := by decide +kernel
theorem d_mo_handle_92 : decode c_mo_handle 92 = .ok (.iaload, 1) := by decide +kernel
theorem d_mo_handle_93 : decode c_mo_handle 93 = .ok (.goto 32, 3) := by decide +kernel
theorem d_mo_handle_96 : decode c_mo_handle 96 = .ok (.iload_n 3, 1) := by decide +kernel
theorem d_mo_handle_97 : decode c_mo_handle 97 = .ok (.iconst 2, 1) := by decide +kernel
theorem d_mo_handle_98 : decode c_mo_handle 98 = .ok (.if_icmp .ne 21, 3) := by decide +kernel
theorem d_mo_handle_101 : decode c_mo_handle 101 = .ok (.aload_n 0, 1) := by decide +kernel
theorem d_mo_handle_102 : decode c_mo_handle 102 = .ok (.getfield 53, 3) := by decide +kernel
theorem d_mo_handle_105 : decode c_mo_handle 105 = .ok (.iload 4, 2) := by decide +kernel
theorem d_mo_handle_107 : decode c_mo_handle 107 = .ok (.baload, 1) := by decide +kernel
theorem d_mo_handle_108 : decode c_mo_handle 108 = .ok (.ifCond .eq 7, 3) := by decide +kernel
theorem d_mo_handle_111 : decode c_mo_handle 111 = .ok (.iconst 1, 1) := by decide +kernel
theorem d_mo_handle_112 : decode c_mo_handle 112 = .ok (.goto 13, 3) := by decide +kernel
theorem d_mo_handle_115 : decode c_mo_handle 115 = .ok (.iconst 0, 1) := by decide +kernel
theorem d_mo_handle_116 : decode c_mo_handle 116 = .ok (.goto 9, 3) := by decide +kernel
theorem d_mo_handle_119 : decode c_mo_handle 119 = .ok (.aload_n 0, 1) := by decide +kernel
theorem d_mo_handle_120 : decode c_mo_handle 120 = .ok (.iload 4, 2) := by decide +kernel
theorem d_mo_handle_122 : decode c_mo_handle 122 = .ok (.invokevirtual 221, 3) := by decide +kernel
theorem d_mo_handle_125 : decode c_mo_handle 125 = .ok (.ireturn, 1) := by decide +kernel
theorem d_mo_state_0 : decode c_mo_state 0 = .ok (.aload_n 0, 1) := by decide +kernel
theorem d_mo_state_1 : decode c_mo_state 1 = .ok (.aload_n 0, 1) := by decide +kernel
theorem d_mo_state_2 : decode c_mo_state 2 = .ok (.iload_n 1, 1) := by decide +kernel
theorem d_mo_state_3 : decode c_mo_state 3 = .ok (.invokevirtual 197, 3) := by decide +kernel
theorem d_mo_state_6 : decode c_mo_state 6 = .ok (.ifCond .eq 12, 3) := by decide +kernel
theorem d_mo_state_9 : decode c_mo_state 9 = .ok (.iload_n 2, 1) := by decide +kernel
theorem d_mo_state_10 : decode c_mo_state 10 = .ok (.ifCond .lt 8, 3) := by decide +kernel
theorem d_mo_state_13 : decode c_mo_state 13 = .ok (.iload_n 2, 1) := by decide +kernel
theorem d_mo_state_14 : decode c_mo_state 14 = .ok (.iconst 2, 1) := by decide +kernel
theorem d_mo_state_15 : decode c_mo_state 15 = .ok (.if_icmp .le 7, 3) := by decide +kernel
theorem d_mo_state_18 : decode c_mo_state 18 = .ok (.iconst 1, 1) := by decide +kernel
theorem d_mo_state_19 : decode c_mo_state 19 = .ok (.goto 4, 3) := by decide +kernel
theorem d_mo_state_22 : decode c_mo_state 22 = .ok (.iconst 0, 1) := by decide +kernel
theorem d_mo_state_23 : decode c_mo_state 23 = .ok (.invokevirtual 157, 3) := by decide +kernel
theorem d_mo_state_26 : decode c_mo_state 26 = .ok (.ifCond .eq 5, 3) := by decide +kernel
theorem d_mo_state_29 : decode c_mo_state 29 = .ok (.iconst 0, 1) := by decide +kernel
theorem d_mo_state_30 : decode c_mo_state 30 = .ok (.ireturn, 1) := by decide +kernel
theorem d_mo_state_31 : decode c_mo_state 31 = .ok (.iload_n 2, 1) := by decide +kernel
theorem d_mo_state_32 : decode c_mo_state 32 = .ok (.ifCond .ne 12, 3) := by decide +kernel
theorem d_mo_state_35 : decode c_mo_state 35 = .ok (.aload_n 0, 1) := by decide +kernel
theorem d_mo_state_36 : decode c_mo_state 36 = .ok (.getfield 43, 3) := by decide +kernel
theorem d_mo_state_39 : decode c_mo_state 39 = .ok (.iload_n 1, 1) := by decide +kernel
theorem d_mo_state_40 : decode c_mo_state 40 = .ok (.iaload, 1) := by decide +kernel
theorem d_mo_state_41 : decode c_mo_state 41 = .ok (.goto 22, 3) := by decide +kernel
theorem d_mo_state_44 : decode c_mo_state 44 = .ok (.iload_n 2, 1) := by decide +kernel
theorem d_mo_state_45 : decode c_mo_state 45 = .ok (.iconst 1, 1) := by decide +kernel
theorem d_mo_state_46 : decode c_mo_state 46 = .ok (.if_icmp .ne 12, 3) := by decide +kernel
theorem d_mo_state_49 : decode c_mo_state 49 = .ok (.aload_n 0, 1) := by decide +kernel
theorem d_mo_state_50 : decode c_mo_state 50 = .ok (.getfield 40, 3) := by decide +kernel
theorem d_mo_state_53 : decode c_mo_state 53 = .ok (.iload_n 1, 1) := by decide +kernel
theorem d_mo_state_54 : decode c_mo_state 54 = .ok (.iaload, 1) := by decide +kernel
theorem d_mo_state_55 : decode c_mo_state 55 = .ok (.goto 8, 3) := by decide +kernel
theorem d_mo_state_58 : decode c_mo_state 58 = .ok (.aload_n 0, 1) := by decide +kernel
theorem d_mo_state_59 : decode c_mo_state 59 = .ok (.iload_n 1, 1) := by decide +kernel
theorem d_mo_state_60 : decode c_mo_state 60 = .ok (.invokevirtual 291, 3) := by decide +kernel
theorem d_mo_state_63 : decode c_mo_state 63 = .ok (.ireturn, 1) := by decide +kernel
theorem d_mo_close_0 : decode c_mo_close 0 = .ok (.aload_n 0, 1) := by decide +kernel
theorem d_mo_close_1 : decode c_mo_close 1 = .ok (.aload_n 0, 1) := by decide +kernel
theorem d_mo_close_2 : decode c_mo_close 2 = .ok (.iload_n 1, 1) := by decide +kernel
theorem d_mo_close_3 : decode c_mo_close 3 = .ok (.invokevirtual 197, 3) := by decide +kernel
theorem d_mo_close_6 : decode c_mo_close 6 = .ok (.ifCond .ne 7, 3) := by decide +kernel
theorem d_mo_close_9 : decode c_mo_close 9 = .ok (.iconst 1, 1) := by decide +kernel
theorem d_mo_close_10 : decode c_mo_close 10 = .ok (.goto 28, 3) := by decide +kernel
theorem d_mo_close_13 : decode c_mo_close 13 = .ok (.aload_n 0, 1) := by decide +kernel
theorem d_mo_close_14 : decode c_mo_close 14 = .ok (.getfield 43, 3) := by decide +kernel
theorem d_mo_close_17 : decode c_mo_close 17 = .ok (.iload_n 1, 1) := by decide +kernel
theorem d_mo_close_18 : decode c_mo_close 18 = .ok (.iaload, 1) := by decide +kernel
theorem d_mo_close_19 : decode c_mo_close 19 = .ok (.iconst 1, 1) := by decide +kernel
theorem d_mo_close_20 : decode c_mo_close 20 = .ok (.if_icmp .eq 13, 3) := by decide +kernel
theorem d_mo_close_23 : decode c_mo_close 23 = .ok (.aload_n 0, 1) := by decide +kernel
theorem d_mo_close_24 : decode c_mo_close 24 = .ok (.getfield 43, 3) := by decide +kernel
theorem d_mo_close_27 : decode c_mo_close 27 = .ok (.iload_n 1, 1) := by decide +kernel
theorem d_mo_close_28 : decode c_mo_close 28 = .ok (.iaload, 1) := by decide +kernel
theorem d_mo_close_29 : decode c_mo_close 29 = .ok (.iconst 3, 1) := by decide +kernel
theorem d_mo_close_30 : decode c_mo_close 30 = .ok (.if_icmp .ne 7, 3) := by decide +kernel
theorem d_mo_close_33 : decode c_mo_close 33 = .ok (.iconst 2, 1) := by decide +kernel
theorem d_mo_close_34 : decode c_mo_close 34 = .ok (.goto 4, 3) := by decide +kernel
theorem d_mo_close_37 : decode c_mo_close 37 = .ok (.iconst 0, 1) := by decide +kernel
theorem d_mo_close_38 : decode c_mo_close 38 = .ok (.invokevirtual 157, 3) := by decide +kernel
theorem d_mo_close_41 : decode c_mo_close 41 = .ok (.ifCond .eq 5, 3) := by decide +kernel
theorem d_mo_close_44 : decode c_mo_close 44 = .ok (.iconst 0, 1) := by decide +kernel
theorem d_mo_close_45 : decode c_mo_close 45 = .ok (.ireturn, 1) := by decide +kernel
theorem d_mo_close_46 : decode c_mo_close 46 = .ok (.iconst 0, 1) := by decide +kernel
theorem d_mo_close_47 : decode c_mo_close 47 = .ok (.istore_n 2, 1) := by decide +kernel
theorem d_mo_close_48 : decode c_mo_close 48 = .ok (.iconst 1, 1) := by decide +kernel
theorem d_mo_close_49 : decode c_mo_close 49 = .ok (.istore_n 3, 1) := by decide +kernel
theorem d_mo_close_50 : decode c_mo_close 50 = .ok (.iload_n 3, 1) := by decide +kernel
theorem d_mo_close_51 : decode c_mo_close 51 = .ok (.bipush 16, 2) := by decide +kernel
theorem d_mo_close_53 : decode c_mo_close 53 = .ok (.if_icmp .gt 61, 3) := by decide +kernel
theorem d_mo_close_56 : decode c_mo_close 56 = .ok (.bipush 17, 2) := by decide +kernel
theorem d_mo_close_58 : decode c_mo_close 58 = .ok (.iload_n 1, 1) := by decide +kernel
theorem d_mo_close_59 : decode c_mo_close 59 = .ok (.imul, 1) := by decide +kernel
theorem d_mo_close_60 : decode c_mo_close 60 = .ok (.iload_n 3, 1) := by decide +kernel
theorem d_mo_close_61 : decode c_mo_close 61 = .ok (.iadd, 1) := by decide +kernel
theorem d_mo_close_62 : decode c_mo_close 62 = .ok (.istore 4, 2) := by decide +kernel
theorem d_mo_close_64 : decode c_mo_close 64 = .ok (.aload_n 0, 1) := by decide +kernel
theorem d_mo_close_65 : decode c_mo_close 65 = .ok (.getfield 46, 3) := by decide +kernel
theorem d_mo_close_68 : decode c_mo_close 68 = .ok (.iload 4, 2) := by decide +kernel
theorem d_mo_close_70 : decode c_mo_close 70 = .ok (.baload, 1) := by decide +kernel
theorem d_mo_close_71 : decode c_mo_close 71 = .ok (.ifCond .eq 29, 3) := by decide +kernel
theorem d_mo_close_74 : decode c_mo_close 74 = .ok (.aload_n 0, 1) := by decide +kernel
theorem d_mo_close_75 : decode c_mo_close 75 = .ok (.getfield 53, 3) := by decide +kernel
theorem d_mo_close_78 : decode c_mo_close 78 = .ok (.iload 4, 2) := by decide +kernel
theorem d_mo_close_80 : decode c_mo_close 80 = .ok (.baload, 1) := by decide +kernel
theorem d_mo_close_81 : decode c_mo_close 81 = .ok (.ifCond .eq 19, 3) := by decide +kernel
theorem d_mo_close_84 : decode c_mo_close 84 = .ok (.aload_n 0, 1) := by decide +kernel
theorem d_mo_close_85 : decode c_mo_close 85 = .ok (.getfield 68, 3) := by decide +kernel
theorem d_mo_close_88 : decode c_mo_close 88 = .ok (.aload_n 0, 1) := by decide +kernel
theorem d_mo_close_89 : decode c_mo_close 89 = .ok (.getfield 50, 3) := by decide +kernel
theorem d_mo_close_92 : decode c_mo_close 92 = .ok (.iload 4, 2) := by decide +kernel
theorem d_mo_close_94 : decode c_mo_close 94 = .ok (.iaload, 1) := by decide +kernel
theorem d_mo_close_95 : decode c_mo_close 95 = .ok (.iconst 1, 1) := by decide +kernel
theorem d_mo_close_96 : decode c_mo_close 96 = .ok (.bastore, 1) := by decide +kernel
theorem d_mo_close_97 : decode c_mo_close 97 = .ok (.iinc 2 1, 3) := by decide +kernel
theorem d_mo_close_100 : decode c_mo_close 100 = .ok (.aload_n 0, 1) := by decide +kernel
theorem d_mo_close_101 : decode c_mo_close 101 = .ok (.getfield 46, 3) := by decide +kernel
theorem d_mo_close_104 : decode c_mo_close 104 = .ok (.iload 4, 2) := by decide +kernel
theorem d_mo_close_106 : decode c_mo_close 106 = .ok (.iconst 0, 1) := by decide +kernel
theorem d_mo_close_107 : decode c_mo_close 107 = .ok (.bastore, 1) := by decide +kernel
theorem d_mo_close_108 : decode c_mo_close 108 = .ok (.iinc 3 1, 3) := by decide +kernel
theorem d_mo_close_111 : decode c_mo_close 111 = .ok (.goto (-61), 3) := by decide +kernel
theorem d_mo_close_114 : decode c_mo_close 114 = .ok (.aload_n 0, 1) := by decide +kernel
theorem d_mo_close_115 : decode c_mo_close 115 = .ok (.getfield 43, 3) := by decide +kernel
theorem d_mo_close_118 : decode c_mo_close 118 = .ok (.iload_n 1, 1) := by decide +kernel
theorem d_mo_close_119 : decode c_mo_close 119 = .ok (.iconst 3, 1) := by decide +kernel
theorem d_mo_close_120 : decode c_mo_close 120 = .ok (.iastore, 1) := by decide +kernel
theorem d_mo_close_121 : decode c_mo_close 121 = .ok (.iload_n 2, 1) := by decide +kernel
theorem d_mo_close_122 : decode c_mo_close 122 = .ok (.ireturn, 1) := by decide +kernel
theorem d_mo_resources_0 : decode c_mo_resources 0 = .ok (.aload_n 0, 1) := by decide +kernel
theorem d_mo_resources_1 : decode c_mo_resources 1 = .ok (.iload_n 1, 1) := by decide +kernel
theorem d_mo_resources_2 : decode c_mo_resources 2 = .ok (.ifCond .lt 8, 3) := by decide +kernel
theorem d_mo_resources_5 : decode c_mo_resources 5 = .ok (.iload_n 1, 1) := by decide +kernel
theorem d_mo_resources_6 : decode c_mo_resources 6 = .ok (.iconst 3, 1) := by decide +kernel
theorem d_mo_resources_7 : decode c_mo_resources 7 = .ok (.if_icmp .le 7, 3) := by decide +kernel
theorem d_mo_resources_10 : decode c_mo_resources 10 = .ok (.iconst 1, 1) := by decide +kernel
theorem d_mo_resources_11 : decode c_mo_resources 11 = .ok (.goto 4, 3) := by decide +kernel
theorem d_mo_resources_14 : decode c_mo_resources 14 = .ok (.iconst 0, 1) := by decide +kernel
theorem d_mo_resources_15 : decode c_mo_resources 15 = .ok (.invokevirtual 157, 3) := by decide +kernel
theorem d_mo_resources_18 : decode c_mo_resources 18 = .ok (.ifCond .eq 5, 3) := by decide +kernel
theorem d_mo_resources_21 : decode c_mo_resources 21 = .ok (.iconst 0, 1) := by decide +kernel
theorem d_mo_resources_22 : decode c_mo_resources 22 = .ok (.ireturn, 1) := by decide +kernel
theorem d_mo_resources_23 : decode c_mo_resources 23 = .ok (.iconst 0, 1) := by decide +kernel
theorem d_mo_resources_24 : decode c_mo_resources 24 = .ok (.istore_n 3, 1) := by decide +kernel
theorem d_mo_resources_25 : decode c_mo_resources 25 = .ok (.iconst 0, 1) := by decide +kernel
theorem d_mo_resources_26 : decode c_mo_resources 26 = .ok (.istore 4, 2) := by decide +kernel
theorem d_mo_resources_28 : decode c_mo_resources 28 = .ok (.iload 4, 2) := by decide +kernel
theorem d_mo_resources_30 : decode c_mo_resources 30 = .ok (.aload_n 0, 1) := by decide +kernel
theorem d_mo_resources_31 : decode c_mo_resources 31 = .ok (.getfield 218, 3) := by decide +kernel
theorem d_mo_resources_34 : decode c_mo_resources 34 = .ok (.if_icmp .ge 39, 3) := by decide +kernel
theorem d_mo_resources_37 : decode c_mo_resources 37 = .ok (.aload_n 0, 1) := by decide +kernel
theorem d_mo_resources_38 : decode c_mo_resources 38 = .ok (.getfield 65, 3) := by decide +kernel
theorem d_mo_resources_41 : decode c_mo_resources 41 = .ok (.iload 4, 2) := by decide +kernel
theorem d_mo_resources_43 : decode c_mo_resources 43 = .ok (.iaload, 1) := by decide +kernel
theorem d_mo_resources_44 : decode c_mo_resources 44 = .ok (.iload_n 1, 1) := by decide +kernel
theorem d_mo_resources_45 : decode c_mo_resources 45 = .ok (.if_icmp .ne 20, 3) := by decide +kernel
theorem d_mo_resources_48 : decode c_mo_resources 48 = .ok (.aload_n 0, 1) := by decide +kernel
theorem d_mo_resources_49 : decode c_mo_resources 49 = .ok (.getfield 68, 3) := by decide +kernel
theorem d_mo_resources_52 : decode c_mo_resources 52 = .ok (.iload 4, 2) := by decide +kernel
theorem d_mo_resources_54 : decode c_mo_resources 54 = .ok (.baload, 1) := by decide +kernel
theorem d_mo_resources_55 : decode c_mo_resources 55 = .ok (.iload_n 2, 1) := by decide +kernel
theorem d_mo_resources_56 : decode c_mo_resources 56 = .ok (.if_icmp .ne 9, 3) := by decide +kernel
theorem d_mo_resources_59 : decode c_mo_resources 59 = .ok (.iload_n 3, 1) := by decide +kernel
theorem d_mo_resources_60 : decode c_mo_resources 60 = .ok (.iconst 1, 1) := by decide +kernel
theorem d_mo_resources_61 : decode c_mo_resources 61 = .ok (.iadd, 1) := by decide +kernel
theorem d_mo_resources_62 : decode c_mo_resources 62 = .ok (.goto 4, 3) := by decide +kernel
theorem d_mo_resources_65 : decode c_mo_resources 65 = .ok (.iload_n 3, 1) := by decide +kernel
theorem d_mo_resources_66 : decode c_mo_resources 66 = .ok (.istore_n 3, 1) := by decide +kernel
theorem d_mo_resources_67 : decode c_mo_resources 67 = .ok (.iinc 4 1, 3) := by decide +kernel
theorem d_mo_resources_70 : decode c_mo_resources 70 = .ok (.goto (-42), 3) := by decide +kernel
theorem d_mo_resources_73 : decode c_mo_resources 73 = .ok (.iload_n 3, 1) := by decide +kernel
theorem d_mo_resources_74 : decode c_mo_resources 74 = .ok (.ireturn, 1) := by decide +kernel
theorem d_mo_trapped_0 : decode c_mo_trapped 0 = .ok (.iconst 0, 1) := by decide +kernel
theorem d_mo_trapped_1 : decode c_mo_trapped 1 = .ok (.istore 4, 2) := by decide +kernel
theorem d_mo_trapped_3 : decode c_mo_trapped 3 = .ok (.iload 4, 2) := by decide +kernel
theorem d_mo_trapped_5 : decode c_mo_trapped 5 = .ok (.aload_n 0, 1) := by decide +kernel
theorem d_mo_trapped_6 : decode c_mo_trapped 6 = .ok (.getfield 260, 3) := by decide +kernel
theorem d_mo_trapped_9 : decode c_mo_trapped 9 = .ok (.if_icmp .ge 22, 3) := by decide +kernel
theorem d_mo_trapped_12 : decode c_mo_trapped 12 = .ok (.aload_n 0, 1) := by decide +kernel
theorem d_mo_trapped_13 : decode c_mo_trapped 13 = .ok (.getfield 46, 3) := by decide +kernel
theorem d_mo_trapped_16 : decode c_mo_trapped 16 = .ok (.aload_n 0, 1) := by decide +kernel
theorem d_mo_trapped_17 : decode c_mo_trapped 17 = .ok (.getfield 135, 3) := by decide +kernel
theorem d_mo_trapped_20 : decode c_mo_trapped 20 = .ok (.iload 4, 2) := by decide +kernel
theorem d_mo_trapped_22 : decode c_mo_trapped 22 = .ok (.iaload, 1) := by decide +kernel
theorem d_mo_trapped_23 : decode c_mo_trapped 23 = .ok (.iconst 0, 1) := by decide +kernel
theorem d_mo_trapped_24 : decode c_mo_trapped 24 = .ok (.bastore, 1) := by decide +kernel
theorem d_mo_trapped_25 : decode c_mo_trapped 25 = .ok (.iinc 4 1, 3) := by decide +kernel
theorem d_mo_trapped_28 : decode c_mo_trapped 28 = .ok (.goto (-25), 3) := by decide +kernel
theorem d_mo_trapped_31 : decode c_mo_trapped 31 = .ok (.aload_n 0, 1) := by decide +kernel
theorem d_mo_trapped_32 : decode c_mo_trapped 32 = .ok (.iconst 0, 1) := by decide +kernel
theorem d_mo_trapped_33 : decode c_mo_trapped 33 = .ok (.putfield 260, 3) := by decide +kernel
theorem d_mo_trapped_36 : decode c_mo_trapped 36 = .ok (.iconst 0, 1) := by decide +kernel
theorem d_mo_trapped_37 : decode c_mo_trapped 37 = .ok (.istore 4, 2) := by decide +kernel
theorem d_mo_trapped_39 : decode c_mo_trapped 39 = .ok (.iload 4, 2) := by decide +kernel
theorem d_mo_trapped_41 : decode c_mo_trapped 41 = .ok (.bipush 102, 2) := by decide +kernel
theorem d_mo_trapped_43 : decode c_mo_trapped 43 = .ok (.if_icmp .ge 41, 3) := by decide +kernel
theorem d_mo_trapped_46 : decode c_mo_trapped 46 = .ok (.aload_n 0, 1) := by decide +kernel
theorem d_mo_trapped_47 : decode c_mo_trapped 47 = .ok (.getfield 46, 3) := by decide +kernel
theorem d_mo_trapped_50 : decode c_mo_trapped 50 = .ok (.iload 4, 2) := by decide +kernel
theorem d_mo_trapped_52 : decode c_mo_trapped 52 = .ok (.aload_n 0, 1) := by decide +kernel
theorem d_mo_trapped_53 : decode c_mo_trapped 53 = .ok (.getfield 46, 3) := by decide +kernel
theorem d_mo_trapped_56 : decode c_mo_trapped 56 = .ok (.iload 4, 2) := by decide +kernel
theorem d_mo_trapped_58 : decode c_mo_trapped 58 = .ok (.baload, 1) := by decide +kernel
theorem d_mo_trapped_59 : decode c_mo_trapped 59 = .ok (.ifCond .eq 17, 3) := by decide +kernel
theorem d_mo_trapped_62 : decode c_mo_trapped 62 = .ok (.aload_n 0, 1) := by decide +kernel
theorem d_mo_trapped_63 : decode c_mo_trapped 63 = .ok (.getfield 53, 3) := by decide +kernel
theorem d_mo_trapped_66 : decode c_mo_trapped 66 = .ok (.iload 4, 2) := by decide +kernel
theorem d_mo_trapped_68 : decode c_mo_trapped 68 = .ok (.baload, 1) := by decide +kernel
theorem d_mo_trapped_69 : decode c_mo_trapped 69 = .ok (.ifCond .eq 7, 3) := by decide +kernel
theorem d_mo_trapped_72 : decode c_mo_trapped 72 = .ok (.iconst 1, 1) := by decide +kernel
theorem d_mo_trapped_73 : decode c_mo_trapped 73 = .ok (.goto 4, 3) := by decide +kernel
theorem d_mo_trapped_76 : decode c_mo_trapped 76 = .ok (.iconst 0, 1) := by decide +kernel
theorem d_mo_trapped_77 : decode c_mo_trapped 77 = .ok (.bastore, 1) := by decide +kernel
theorem d_mo_trapped_78 : decode c_mo_trapped 78 = .ok (.iinc 4 1, 3) := by decide +kernel
theorem d_mo_trapped_81 : decode c_mo_trapped 81 = .ok (.goto (-42), 3) := by decide +kernel
theorem d_mo_trapped_84 : decode c_mo_trapped 84 = .ok (.iconst 0, 1) := by decide +kernel
theorem d_mo_trapped_85 : decode c_mo_trapped 85 = .ok (.istore 4, 2) := by decide +kernel
theorem d_mo_trapped_87 : decode c_mo_trapped 87 = .ok (.iload 4, 2) := by decide +kernel
theorem d_mo_trapped_89 : decode c_mo_trapped 89 = .ok (.aload_n 0, 1) := by decide +kernel
theorem d_mo_trapped_90 : decode c_mo_trapped 90 = .ok (.getfield 208, 3) := by decide +kernel
theorem d_mo_trapped_93 : decode c_mo_trapped 93 = .ok (.if_icmp .ge 22, 3) := by decide +kernel
theorem d_mo_trapped_96 : decode c_mo_trapped 96 = .ok (.aload_n 0, 1) := by decide +kernel
theorem d_mo_trapped_97 : decode c_mo_trapped 97 = .ok (.getfield 43, 3) := by decide +kernel
theorem d_mo_trapped_100 : decode c_mo_trapped 100 = .ok (.aload_n 0, 1) := by decide +kernel
theorem d_mo_trapped_101 : decode c_mo_trapped 101 = .ok (.getfield 80, 3) := by decide +kernel
theorem d_mo_trapped_104 : decode c_mo_trapped 104 = .ok (.iload 4, 2) := by decide +kernel
theorem d_mo_trapped_106 : decode c_mo_trapped 106 = .ok (.iaload, 1) := by decide +kernel
theorem d_mo_trapped_107 : decode c_mo_trapped 107 = .ok (.iconst 0, 1) := by decide +kernel
theorem d_mo_trapped_108 : decode c_mo_trapped 108 = .ok (.iastore, 1) := by decide +kernel
theorem d_mo_trapped_109 : decode c_mo_trapped 109 = .ok (.iinc 4 1, 3) := by decide +kernel
theorem d_mo_trapped_112 : decode c_mo_trapped 112 = .ok (.goto (-25), 3) := by decide +kernel
theorem d_mo_trapped_115 : decode c_mo_trapped 115 = .ok (.aload_n 0, 1) := by decide +kernel
theorem d_mo_trapped_116 : decode c_mo_trapped 116 = .ok (.iconst 0, 1) := by decide +kernel
theorem d_mo_trapped_117 : decode c_mo_trapped 117 = .ok (.putfield 208, 3) := by decide +kernel
theorem d_mo_trapped_120 : decode c_mo_trapped 120 = .ok (.iconst 0, 1) := by decide +kernel
theorem d_mo_trapped_121 : decode c_mo_trapped 121 = .ok (.istore 4, 2) := by decide +kernel
theorem d_mo_trapped_123 : decode c_mo_trapped 123 = .ok (.iload 4, 2) := by decide +kernel
theorem d_mo_trapped_125 : decode c_mo_trapped 125 = .ok (.bipush 6, 2) := by decide +kernel
theorem d_mo_trapped_127 : decode c_mo_trapped 127 = .ok (.if_icmp .ge 19, 3) := by decide +kernel
theorem d_mo_trapped_130 : decode c_mo_trapped 130 = .ok (.aload_n 0, 1) := by decide +kernel
theorem d_mo_trapped_131 : decode c_mo_trapped 131 = .ok (.getfield 40, 3) := by decide +kernel
theorem d_mo_trapped_134 : decode c_mo_trapped 134 = .ok (.iload 4, 2) := by decide +kernel
theorem d_mo_trapped_136 : decode c_mo_trapped 136 = .ok (.sipush 128, 3) := by decide +kernel
theorem d_mo_trapped_139 : decode c_mo_trapped 139 = .ok (.iastore, 1) := by decide +kernel
theorem d_mo_trapped_140 : decode c_mo_trapped 140 = .ok (.iinc 4 1, 3) := by decide +kernel
theorem d_mo_trapped_143 : decode c_mo_trapped 143 = .ok (.goto (-20), 3) := by decide +kernel
theorem d_mo_trapped_146 : decode c_mo_trapped 146 = .ok (.aload_n 0, 1) := by decide +kernel
theorem d_mo_trapped_147 : decode c_mo_trapped 147 = .ok (.getfield 43, 3) := by decide +kernel
theorem d_mo_trapped_150 : decode c_mo_trapped 150 = .ok (.iload_n 3, 1) := by decide +kernel
theorem d_mo_trapped_151 : decode c_mo_trapped 151 = .ok (.iconst 2, 1) := by decide +kernel
theorem d_mo_trapped_152 : decode c_mo_trapped 152 = .ok (.iastore, 1) := by decide +kernel
theorem d_mo_trapped_153 : decode c_mo_trapped 153 = .ok (.aload_n 0, 1) := by decide +kernel
theorem d_mo_trapped_154 : decode c_mo_trapped 154 = .ok (.iload_n 1, 1) := by decide +kernel
theorem d_mo_trapped_155 : decode c_mo_trapped 155 = .ok (.putfield 278, 3) := by decide +kernel
theorem d_mo_trapped_158 : decode c_mo_trapped 158 = .ok (.aload_n 0, 1) := by decide +kernel
theorem d_mo_trapped_159 : decode c_mo_trapped 159 = .ok (.iload_n 2, 1) := by decide +kernel
theorem d_mo_trapped_160 : decode c_mo_trapped 160 = .ok (.putfield 281, 3) := by decide +kernel
theorem d_mo_trapped_163 : decode c_mo_trapped 163 = .ok (.aload_n 0, 1) := by decide +kernel
theorem d_mo_trapped_164 : decode c_mo_trapped 164 = .ok (.iload_n 3, 1) := by decide +kernel
theorem d_mo_trapped_165 : decode c_mo_trapped 165 = .ok (.putfield 89, 3) := by decide +kernel
theorem d_mo_trapped_168 : decode c_mo_trapped 168 = .ok (.iload_n 1, 1) := by decide +kernel
theorem d_mo_trapped_169 : decode c_mo_trapped 169 = .ok (.ireturn, 1) := by decide +kernel
theorem d_mo_trap_0 : decode c_mo_trap 0 = .ok (.aload_n 0, 1) := by decide +kernel
theorem d_mo_trap_1 : decode c_mo_trap 1 = .ok (.aload_n 0, 1) := by decide +kernel
theorem d_mo_trap_2 : decode c_mo_trap 2 = .ok (.getfield 208, 3) := by decide +kernel
theorem d_mo_trap_5 : decode c_mo_trap 5 = .ok (.ifCond .ne 7, 3) := by decide +kernel
theorem d_mo_trap_8 : decode c_mo_trap 8 = .ok (.iconst 1, 1) := by decide +kernel
theorem d_mo_trap_9 : decode c_mo_trap 9 = .ok (.goto 4, 3) := by decide +kernel
theorem d_mo_trap_12 : decode c_mo_trap 12 = .ok (.iconst 0, 1) := by decide +kernel
theorem d_mo_trap_13 : decode c_mo_trap 13 = .ok (.invokevirtual 157, 3) := by decide +kernel
theorem d_mo_trap_16 : decode c_mo_trap 16 = .ok (.ifCond .eq 4, 3) := by decide +kernel
theorem d_mo_trap_19 : decode c_mo_trap 19 = .ok (.return_, 1) := by decide +kernel
theorem d_mo_trap_20 : decode c_mo_trap 20 = .ok (.aload_n 0, 1) := by decide +kernel
theorem d_mo_trap_21 : decode c_mo_trap 21 = .ok (.iconst 0, 1) := by decide +kernel
theorem d_mo_trap_22 : decode c_mo_trap 22 = .ok (.putfield 260, 3) := by decide +kernel
theorem d_mo_trap_25 : decode c_mo_trap 25 = .ok (.aload_n 0, 1) := by decide +kernel
theorem d_mo_trap_26 : decode c_mo_trap 26 = .ok (.bipush 13, 2) := by decide +kernel
theorem d_mo_trap_28 : decode c_mo_trap 28 = .ok (.iconst 0, 1) := by decide +kernel
theorem d_mo_trap_29 : decode c_mo_trap 29 = .ok (.aload_n 0, 1) := by decide +kernel
theorem d_mo_trap_30 : decode c_mo_trap 30 = .ok (.getfield 80, 3) := by decide +kernel
theorem d_mo_trap_33 : decode c_mo_trap 33 = .ok (.aload_n 0, 1) := by decide +kernel
theorem d_mo_trap_34 : decode c_mo_trap 34 = .ok (.getfield 208, 3) := by decide +kernel
theorem d_mo_trap_37 : decode c_mo_trap 37 = .ok (.iconst 1, 1) := by decide +kernel
theorem d_mo_trap_38 : decode c_mo_trap 38 = .ok (.isub, 1) := by decide +kernel
theorem d_mo_trap_39 : decode c_mo_trap 39 = .ok (.iaload, 1) := by decide +kernel
theorem d_mo_trap_40 : decode c_mo_trap 40 = .ok (.invokevirtual 284, 3) := by decide +kernel
theorem d_mo_trap_43 : decode c_mo_trap 43 = .ok (.pop, 1) := by decide +kernel
theorem d_mo_trap_44 : decode c_mo_trap 44 = .ok (.return_, 1) := by decide +kernel
end
section
theorem n_s1 {a : Nat} (h : 0 < a) : nI a - 1 = nI (a - 1) := by
  obtain ⟨b, rfl⟩ : ∃ b, a = b + 1 := ⟨a - 1, by omega⟩
  exact nI_pred b
theorem n_rng {x : Int32} (h1 : ¬ x < 1) (h2 : ¬ (16 : Int32) < x) : ∃ j : Nat, 1 ≤ j ∧ j ≤ 16 ∧ x = nI j := by
  obtain ⟨j, hj, rfl⟩ := nI_of2 (M := 16) (n := 16) rfl (fun z => h1 (Int32.lt_of_lt_of_le z (by decide))) (Int32.not_lt.mp h2)
  exact ⟨j, n_nlt j 1 h1, hj, rfl⟩
theorem mo_fh_le (u : Nat → Int32) (b n : Nat) : mo_fh u b n ≤ 16 := by
  induction n with
  | zero => exact Nat.zero_le _
  | succ n ih =>
    rw [mo_fh]
    split
    · exact Nat.sub_le _ _
    · exact ih
theorem n_z {a : Nat} (h : a < 2147483648) : nI a = 0 ↔ a = 0 := ⟨fun z => n_eq a 0 z, fun z => by rw [z]; rfl⟩
/-- an instance's number -/
theorem n_ins {x : Int32} {N : Nat} {y : Int32} (hy : y = nI N) (hN : N ≤ 6) (h : ¬ x < 0 ∧ ¬ y ≤ x) : ∃ j : Nat, j < N ∧ x = nI j := by
  obtain ⟨j, hj, rfl⟩ := nI_of h.1
  exact ⟨j, n_nle N j h.2 hy rfl, rfl⟩

set_option maxHeartbeats 4000000 in
set_option maxRecDepth 100000 in
theorem mt_make {l : Launch} {D : va_G} {tl : List (ClassId × FieldType)} {Z : (Nat → Prop) → State → Heap → Prop} {kI kZ : ClassId} {am : Nat → Nat} {F : Nat → Int32} {B : Nat → Nat → Int32} (hZ : ev_Zok Z) (k : Int32) (Lv : Nat) (hLv : F 29 = nI Lv) (hL6 : Lv ≤ 6) (R : Nat) (hR : 0 < Lv → B 30 (Lv - 1) = nI R ∧ R < 6) (Md : Nat) (hM : F 22 = nI Md) (hM2 : Md < 1024) : MT (mo_π l D cl_A kI kZ tl Z) m_make 0 0 [.ref (am 60), .int k] (mo_W mo_ci am kI kZ F B) (mo_qi am kI kZ (fun x F1 B1 => (F 29 = 0 ∧ x = 0 ∧ F1 = upd F 0 1 ∧ B1 = B) ∨ (¬ F 29 = 0 ∧ (k < 0 ∨ 3 < k) ∧ x = 0 ∧ F1 = upd F 0 2 ∧ B1 = B) ∨ (¬ F 29 = 0 ∧ ¬ k < 0 ∧ ¬ 3 < k ∧ mo_fh (B 16) (17 * R) 16 = 0 ∧ x = 0 ∧ F1 = upd F 0 3 ∧ B1 = B) ∨ (¬ F 29 = 0 ∧ ¬ k < 0 ∧ ¬ 3 < k ∧ mo_fh (B 16) (17 * R) 16 ≠ 0 ∧ x = nI (mo_fh (B 16) (17 * R) 16) ∧ F1 = upd (upd F 0 0) 22 (F 22 + 1) ∧ B1 = va_up (va_up (va_up (va_up B 16 (upd (B 16) (17 * R + mo_fh (B 16) (17 * R) 16) 1)) 18 (upd (B 18) (17 * R + mo_fh (B 16) (17 * R) 16) 1)) 17 (upd (B 17) (17 * R + mo_fh (B 16) (17 * R) 16) (F 22))) 23 (upd (B 23) Md k)))) := by
  refine mt_of mo_pl rfl (Nat.le_of_ble_eq_true rfl) (ev_eq (lv' := [some (.ref (am 60)), some (.int k), none, none]) ?_)
  refine ev_aload_0 0 d_mo_make_0 ?_
  refine ev_aload_0 1 d_mo_make_1 ?_
  refine mo_geti 2 29 d_mo_make_2 lk_208 ?_
  refine ev_ifne 5 12 d_mo_make_5 (fun c5 => ?_) (fun c5 => ?_)
  · have hp : 0 < Lv := Nat.pos_of_ne_zero (fun z => c5 (by rw [hLv, z]; rfl))
    refine ev_iload_1 12 d_mo_make_12 ?_
    refine ev_iflt 13 21 d_mo_make_13 (fun c13 => ?_) (fun c13 => ?_)
    · refine ev_iconst_2 21 d_mo_make_21 ?_
      refine ev_goto 22 48 d_mo_make_22 ?_
      refine mo_calli1 48 d_mo_make_48 hZ kc_157 (mt_refuses hZ _) (fun x F1 B1 h => ?_)
      obtain ⟨hx, e1, e2⟩ := h
      subst F1
      subst B1
      refine ev_ifeq 51 56 d_mo_make_51 (fun c51 => ?_) (fun c51 => ?_)
      · exact absurd c51 (mo_rk hx (by decide))
      · refine ev_iconst_0 54 d_mo_make_54 ?_
        refine ev_iret 55 d_mo_make_55 rfl ?_
        exact ⟨_, _, _, rfl, rfl, Or.inr (Or.inl ⟨c5, Or.inl c13, rfl, rfl, rfl⟩)⟩
    · refine ev_iload_1 16 d_mo_make_16 ?_
      refine ev_iconst_3 17 d_mo_make_17 ?_
      refine ev_icmple 18 25 d_mo_make_18 (fun c18 => ?_) (fun c18 => ?_)
      · refine ev_aload_0 25 d_mo_make_25 ?_
        refine ev_aload_0 26 d_mo_make_26 ?_
        refine mo_getr 27 23 30 d_mo_make_27 lk_80 ?_
        refine ev_aload_0 30 d_mo_make_30 ?_
        refine mo_geti 31 29 d_mo_make_31 lk_208 ?_
        refine ev_iconst_1 34 d_mo_make_34 ?_
        refine ev_isub 35 d_mo_make_35 ?_
        refine ev_topi (nI (Lv - 1)) (by show F 29 - 1 = nI (Lv - 1); rw [hLv]; exact n_s1 hp) ?_
        refine mo_aldn (j := Lv - 1) 36 23 30 d_mo_make_36 (by show Lv - 1 < 6; omega) ?_
        refine ev_topi (nI R) (hR hp).1 ?_
        refine mo_calli1 37 d_mo_make_37 hZ kc_215 (mt_freeHandle hZ R (hR hp).2) (fun y F1 B1 h => ?_)
        obtain ⟨rfl, e1, e2⟩ := h
        subst F1
        subst B1
        refine ev_ifne 40 47 d_mo_make_40 (fun c40 => ?_) (fun c40 => ?_)
        · refine ev_iconst_0 47 d_mo_make_47 ?_
          refine mo_calli1 48 d_mo_make_48 hZ kc_157 (mt_refuses hZ _) (fun x F1 B1 h => ?_)
          obtain ⟨hx, e1, e2⟩ := h
          subst F1
          subst B1
          refine ev_ifeq 51 56 d_mo_make_51 (fun c51 => ?_) (fun c51 => ?_)
          · refine ev_aload_0 56 d_mo_make_56 ?_
            refine ev_aload_0 57 d_mo_make_57 ?_
            refine mo_getr 58 23 30 d_mo_make_58 lk_80 ?_
            refine ev_aload_0 61 d_mo_make_61 ?_
            refine mo_geti 62 29 d_mo_make_62 lk_208 ?_
            refine ev_iconst_1 65 d_mo_make_65 ?_
            refine ev_isub 66 d_mo_make_66 ?_
            refine ev_topi (nI (Lv - 1)) (by show F 29 - 1 = nI (Lv - 1); rw [hLv]; exact n_s1 hp) ?_
            refine mo_aldn (j := Lv - 1) 67 23 30 d_mo_make_67 (by show Lv - 1 < 6; omega) ?_
            refine ev_topi (nI R) (hR hp).1 ?_
            refine mo_calli1 68 d_mo_make_68 hZ kc_215 (mt_freeHandle hZ R (hR hp).2) (fun y F1 B1 h => ?_)
            obtain ⟨rfl, e1, e2⟩ := h
            subst F1
            subst B1
            refine ev_istore_2 71 d_mo_make_71 ?_
            refine ev_bipush (17) 72 d_mo_make_72 (by decide) ?_
            refine ev_aload_0 74 d_mo_make_74 ?_
            refine mo_getr 75 23 30 d_mo_make_75 lk_80 ?_
            refine ev_aload_0 78 d_mo_make_78 ?_
            refine mo_geti 79 29 d_mo_make_79 lk_208 ?_
            refine ev_iconst_1 82 d_mo_make_82 ?_
            refine ev_isub 83 d_mo_make_83 ?_
            refine ev_topi (nI (Lv - 1)) (by show F 29 - 1 = nI (Lv - 1); rw [hLv]; exact n_s1 hp) ?_
            refine mo_aldn (j := Lv - 1) 84 23 30 d_mo_make_84 (by show Lv - 1 < 6; omega) ?_
            refine ev_topi (nI R) (hR hp).1 ?_
            refine ev_imul 85 d_mo_make_85 ?_
            refine ev_iload_2 86 d_mo_make_86 ?_
            refine ev_iadd 87 d_mo_make_87 ?_
            refine ev_topi (nI (17 * R + mo_fh (B 16) (17 * R) 16)) (by rw [n_17, pk_mul, nI_add]) ?_
            refine ev_istore_3 88 d_mo_make_88 ?_
            refine ev_aload_0 89 d_mo_make_89 ?_
            refine mo_getr 90 12 16 d_mo_make_90 lk_46 ?_
            refine ev_iload_3 93 d_mo_make_93 ?_
            refine ev_iconst_1 94 d_mo_make_94 ?_
            refine mo_zstn (j := 17 * R + mo_fh (B 16) (17 * R) 16) 95 12 16 d_mo_make_95 (by have := mo_fh_le (B 16) (17 * R) 16; have := (hR hp).2; show 17 * R + mo_fh (B 16) (17 * R) 16 < 102; omega) (by exact Or.inr rfl) ?_
            refine ev_aload_0 96 d_mo_make_96 ?_
            refine mo_getr 97 14 18 d_mo_make_97 lk_53 ?_
            refine ev_iload_3 100 d_mo_make_100 ?_
            refine ev_iconst_1 101 d_mo_make_101 ?_
            refine mo_zstn (j := 17 * R + mo_fh (B 16) (17 * R) 16) 102 14 18 d_mo_make_102 (by have := mo_fh_le (B 16) (17 * R) 16; have := (hR hp).2; show 17 * R + mo_fh (B 16) (17 * R) 16 < 102; omega) (by exact Or.inr rfl) ?_
            refine ev_aload_0 103 d_mo_make_103 ?_
            refine mo_getr 104 13 17 d_mo_make_104 lk_50 ?_
            refine ev_iload_3 107 d_mo_make_107 ?_
            refine ev_aload_0 108 d_mo_make_108 ?_
            refine mo_geti 109 22 d_mo_make_109 lk_218 ?_
            refine mo_astn (j := 17 * R + mo_fh (B 16) (17 * R) 16) 112 13 17 d_mo_make_112 (by have := mo_fh_le (B 16) (17 * R) 16; have := (hR hp).2; show 17 * R + mo_fh (B 16) (17 * R) 16 < 102; omega) ?_
            refine ev_aload_0 113 d_mo_make_113 ?_
            refine mo_getr 114 18 23 d_mo_make_114 lk_65 ?_
            refine ev_aload_0 117 d_mo_make_117 ?_
            refine mo_geti 118 22 d_mo_make_118 lk_218 ?_
            refine ev_iload_1 121 d_mo_make_121 ?_
            refine ev_sndi (nI (Md)) (by exact hM) ?_
            refine mo_astn (j := Md) 122 18 23 d_mo_make_122 (by exact hM2) ?_
            refine ev_aload_0 123 d_mo_make_123 ?_
            refine ev_dup_a 124 d_mo_make_124 ?_
            refine mo_geti 125 22 d_mo_make_125 lk_218 ?_
            refine ev_iconst_1 128 d_mo_make_128 ?_
            refine ev_iadd 129 d_mo_make_129 ?_
            refine mo_puti 130 22 d_mo_make_130 lp_218 ?_
            refine ev_iload_2 133 d_mo_make_133 ?_
            refine ev_iret 134 d_mo_make_134 rfl ?_
            exact ⟨_, _, _, rfl, rfl, Or.inr (Or.inr (Or.inr ⟨c5, c13, Int32.not_lt.mpr c18, fun z => c40 (by rw [z]; rfl), rfl, rfl, rfl⟩))⟩
          · exact absurd (mo_r0 hx) c51
        · refine ev_iconst_3 43 d_mo_make_43 ?_
          refine ev_goto 44 48 d_mo_make_44 ?_
          refine mo_calli1 48 d_mo_make_48 hZ kc_157 (mt_refuses hZ _) (fun x F1 B1 h => ?_)
          obtain ⟨hx, e1, e2⟩ := h
          subst F1
          subst B1
          refine ev_ifeq 51 56 d_mo_make_51 (fun c51 => ?_) (fun c51 => ?_)
          · exact absurd c51 (mo_rk hx (by decide))
          · refine ev_iconst_0 54 d_mo_make_54 ?_
            refine ev_iret 55 d_mo_make_55 rfl ?_
            exact ⟨_, _, _, rfl, rfl, Or.inr (Or.inr (Or.inl ⟨c5, c13, Int32.not_lt.mpr c18, (n_z (by have := mo_fh_le (B 16) (17 * R) 16; omega)).mp c40, rfl, rfl, rfl⟩))⟩
      · refine ev_iconst_2 21 d_mo_make_21 ?_
        refine ev_goto 22 48 d_mo_make_22 ?_
        refine mo_calli1 48 d_mo_make_48 hZ kc_157 (mt_refuses hZ _) (fun x F1 B1 h => ?_)
        obtain ⟨hx, e1, e2⟩ := h
        subst F1
        subst B1
        refine ev_ifeq 51 56 d_mo_make_51 (fun c51 => ?_) (fun c51 => ?_)
        · exact absurd c51 (mo_rk hx (by decide))
        · refine ev_iconst_0 54 d_mo_make_54 ?_
          refine ev_iret 55 d_mo_make_55 rfl ?_
          exact ⟨_, _, _, rfl, rfl, Or.inr (Or.inl ⟨c5, Or.inr (Int32.not_le.mp c18), rfl, rfl, rfl⟩)⟩
  · refine ev_iconst_1 8 d_mo_make_8 ?_
    refine ev_goto 9 48 d_mo_make_9 ?_
    refine mo_calli1 48 d_mo_make_48 hZ kc_157 (mt_refuses hZ _) (fun x F1 B1 h => ?_)
    obtain ⟨hx, e1, e2⟩ := h
    subst F1
    subst B1
    refine ev_ifeq 51 56 d_mo_make_51 (fun c51 => ?_) (fun c51 => ?_)
    · exact absurd c51 (mo_rk hx (by decide))
    · refine ev_iconst_0 54 d_mo_make_54 ?_
      refine ev_iret 55 d_mo_make_55 rfl ?_
      exact ⟨_, _, _, rfl, rfl, Or.inl ⟨c5, rfl, rfl, rfl⟩⟩

set_option maxHeartbeats 4000000 in
set_option maxRecDepth 100000 in
theorem mt_drop {l : Launch} {D : va_G} {tl : List (ClassId × FieldType)} {Z : (Nat → Prop) → State → Heap → Prop} {kI kZ : ClassId} {am : Nat → Nat} {F : Nat → Int32} {B : Nat → Nat → Int32} (hZ : ev_Zok Z) (h : Int32) (Lv : Nat) (hLv : F 29 = nI Lv) (hL6 : Lv ≤ 6) (R : Nat) (hR : 0 < Lv → B 30 (Lv - 1) = nI R ∧ R < 6) (hG : ∀ j, 1 ≤ j → j ≤ 16 → ¬ B 18 (17 * R + j) = 0 → vp_in (B 17 (17 * R + j)) 1024) (hO : ∀ y, B 18 y = 0 ∨ B 18 y = 1) : MT (mo_π l D cl_A kI kZ tl Z) m_drop 0 0 [.ref (am 60), .int h] (mo_W mo_ci am kI kZ F B) (mo_qi am kI kZ (fun x F1 B1 => (F 29 = 0 ∧ x = 0 ∧ F1 = upd F 0 1 ∧ B1 = B) ∨ (¬ F 29 = 0 ∧ (∀ j, 1 ≤ j → j ≤ 16 → h = nI j → B 16 (17 * R + j) = 0) ∧ x = 0 ∧ F1 = upd F 0 2 ∧ B1 = B) ∨ (¬ F 29 = 0 ∧ ∃ j, 1 ≤ j ∧ j ≤ 16 ∧ h = nI j ∧ ¬ B 16 (17 * R + j) = 0 ∧ ¬ mo_ln B (nI (17 * R + j)) (B 21 (17 * R + j)) 102 ≤ 0 ∧ x = 0 ∧ F1 = upd F 0 3 ∧ B1 = B) ∨ (¬ F 29 = 0 ∧ ∃ j, 1 ≤ j ∧ j ≤ 16 ∧ h = nI j ∧ ¬ B 16 (17 * R + j) = 0 ∧ mo_ln B (nI (17 * R + j)) (B 21 (17 * R + j)) 102 ≤ 0 ∧ x = B 18 (17 * R + j) ∧ F1 = upd F 0 0 ∧ ((B 18 (17 * R + j) = 0 ∧ B1 = va_up B 16 (upd (B 16) (17 * R + j) 0)) ∨ (¬ B 18 (17 * R + j) = 0 ∧ B1 = va_up (va_up B 16 (upd (B 16) (17 * R + j) 0)) 24 (upd (B 24) (B 17 (17 * R + j)).toNatClampNeg 1)))))) := by
  refine mt_of mo_pl rfl (Nat.le_of_ble_eq_true rfl) (ev_eq (lv' := [some (.ref (am 60)), some (.int h), none, none]) ?_)
  refine ev_aload_0 0 d_mo_drop_0 ?_
  refine mo_geti 1 29 d_mo_drop_1 lk_208 ?_
  refine ev_ifle 4 46 d_mo_drop_4 (fun c4 => ?_) (fun c4 => ?_)
  · refine ev_iconst_0 46 d_mo_drop_46 ?_
    refine ev_istore_2 47 d_mo_drop_47 ?_
    refine ev_aload_0 48 d_mo_drop_48 ?_
    refine ev_aload_0 49 d_mo_drop_49 ?_
    refine mo_geti 50 29 d_mo_drop_50 lk_208 ?_
    refine ev_ifne 53 60 d_mo_drop_53 (fun c53 => ?_) (fun c53 => ?_)
    · exact absurd (show F 29 = 0 by have := n_le Lv 0 c4 hLv; rw [hLv, show Lv = 0 by omega]; rfl) c53
    · refine ev_iconst_1 56 d_mo_drop_56 ?_
      refine ev_goto 57 96 d_mo_drop_57 ?_
      refine mo_calli1 96 d_mo_drop_96 hZ kc_157 (mt_refuses hZ _) (fun x F1 B1 h => ?_)
      obtain ⟨hx, e1, e2⟩ := h
      subst F1
      subst B1
      refine ev_ifeq 99 104 d_mo_drop_99 (fun c99 => ?_) (fun c99 => ?_)
      · exact absurd c99 (mo_rk hx (by decide))
      · refine ev_iconst_0 102 d_mo_drop_102 ?_
        refine ev_zret 103 d_mo_drop_103 rfl ?_ ?_
        · first | rfl | (show narrow .boolean (.int (B 18 (17 * R + jj))) = .int (B 18 (17 * R + jj)); rcases hO (17 * R + jj) with z | z <;> rw [z] <;> rfl)
        exact ⟨_, _, _, rfl, rfl, Or.inl ⟨c53, rfl, rfl, rfl⟩⟩
  · have hp : 0 < Lv := Nat.pos_of_ne_zero (fun z => c4 (by rw [hLv, z]; decide))
    refine ev_iload_1 7 d_mo_drop_7 ?_
    refine ev_iconst_1 8 d_mo_drop_8 ?_
    refine ev_icmplt 9 46 d_mo_drop_9 (fun c9 => ?_) (fun c9 => ?_)
    · refine ev_iconst_0 46 d_mo_drop_46 ?_
      refine ev_istore_2 47 d_mo_drop_47 ?_
      refine ev_aload_0 48 d_mo_drop_48 ?_
      refine ev_aload_0 49 d_mo_drop_49 ?_
      refine mo_geti 50 29 d_mo_drop_50 lk_208 ?_
      refine ev_ifne 53 60 d_mo_drop_53 (fun c53 => ?_) (fun c53 => ?_)
      · refine ev_iload_2 60 d_mo_drop_60 ?_
        refine ev_ifne 61 68 d_mo_drop_61 (fun c61 => ?_) (fun c61 => ?_)
        · exact absurd rfl c61
        · refine ev_iconst_2 64 d_mo_drop_64 ?_
          refine ev_goto 65 96 d_mo_drop_65 ?_
          refine mo_calli1 96 d_mo_drop_96 hZ kc_157 (mt_refuses hZ _) (fun x F1 B1 h => ?_)
          obtain ⟨hx, e1, e2⟩ := h
          subst F1
          subst B1
          refine ev_ifeq 99 104 d_mo_drop_99 (fun c99 => ?_) (fun c99 => ?_)
          · exact absurd c99 (mo_rk hx (by decide))
          · refine ev_iconst_0 102 d_mo_drop_102 ?_
            refine ev_zret 103 d_mo_drop_103 rfl ?_ ?_
            · first | rfl | (show narrow .boolean (.int (B 18 (17 * R + jj))) = .int (B 18 (17 * R + jj)); rcases hO (17 * R + jj) with z | z <;> rw [z] <;> rfl)
            exact ⟨_, _, _, rfl, rfl, Or.inr (Or.inl ⟨c53, fun j h1 h2 hj => absurd (by rw [hj] at c9; exact n_lt j 1 c9) (by omega), rfl, rfl, rfl⟩)⟩
      · exact absurd (show F 29 ≤ 0 by rw [show F 29 = 0 from c53]; decide) c4
    · refine ev_iload_1 12 d_mo_drop_12 ?_
      refine ev_bipush (16) 13 d_mo_drop_13 (by decide) ?_
      refine ev_icmpgt 15 46 d_mo_drop_15 (fun c15 => ?_) (fun c15 => ?_)
      · refine ev_iconst_0 46 d_mo_drop_46 ?_
        refine ev_istore_2 47 d_mo_drop_47 ?_
        refine ev_aload_0 48 d_mo_drop_48 ?_
        refine ev_aload_0 49 d_mo_drop_49 ?_
        refine mo_geti 50 29 d_mo_drop_50 lk_208 ?_
        refine ev_ifne 53 60 d_mo_drop_53 (fun c53 => ?_) (fun c53 => ?_)
        · refine ev_iload_2 60 d_mo_drop_60 ?_
          refine ev_ifne 61 68 d_mo_drop_61 (fun c61 => ?_) (fun c61 => ?_)
          · exact absurd rfl c61
          · refine ev_iconst_2 64 d_mo_drop_64 ?_
            refine ev_goto 65 96 d_mo_drop_65 ?_
            refine mo_calli1 96 d_mo_drop_96 hZ kc_157 (mt_refuses hZ _) (fun x F1 B1 h => ?_)
            obtain ⟨hx, e1, e2⟩ := h
            subst F1
            subst B1
            refine ev_ifeq 99 104 d_mo_drop_99 (fun c99 => ?_) (fun c99 => ?_)
            · exact absurd c99 (mo_rk hx (by decide))
            · refine ev_iconst_0 102 d_mo_drop_102 ?_
              refine ev_zret 103 d_mo_drop_103 rfl ?_ ?_
              · first | rfl | (show narrow .boolean (.int (B 18 (17 * R + jj))) = .int (B 18 (17 * R + jj)); rcases hO (17 * R + jj) with z | z <;> rw [z] <;> rfl)
              exact ⟨_, _, _, rfl, rfl, Or.inr (Or.inl ⟨c53, fun j h1 h2 hj => absurd (by rw [hj] at c15; exact n_lt 16 j c15) (by omega), rfl, rfl, rfl⟩)⟩
        · exact absurd (show F 29 ≤ 0 by rw [show F 29 = 0 from c53]; decide) c4
      · obtain ⟨jj, hj1, hj2, rfl⟩ := n_rng c9 c15
        refine ev_aload_0 18 d_mo_drop_18 ?_
        refine mo_getr 19 12 16 d_mo_drop_19 lk_46 ?_
        refine ev_bipush (17) 22 d_mo_drop_22 (by decide) ?_
        refine ev_aload_0 24 d_mo_drop_24 ?_
        refine mo_getr 25 23 30 d_mo_drop_25 lk_80 ?_
        refine ev_aload_0 28 d_mo_drop_28 ?_
        refine mo_geti 29 29 d_mo_drop_29 lk_208 ?_
        refine ev_iconst_1 32 d_mo_drop_32 ?_
        refine ev_isub 33 d_mo_drop_33 ?_
        refine ev_topi (nI (Lv - 1)) (by show F 29 - 1 = nI (Lv - 1); rw [hLv]; exact n_s1 hp) ?_
        refine mo_aldn (j := Lv - 1) 34 23 30 d_mo_drop_34 (by show Lv - 1 < 6; omega) ?_
        refine ev_topi (nI R) (hR hp).1 ?_
        refine ev_imul 35 d_mo_drop_35 ?_
        refine ev_iload_1 36 d_mo_drop_36 ?_
        refine ev_iadd 37 d_mo_drop_37 ?_
        refine ev_topi (nI (17 * R + jj)) (by rw [n_17, pk_mul, nI_add]) ?_
        refine mo_zldn (j := 17 * R + jj) 38 12 16 d_mo_drop_38 (by have := (hR hp).2; show 17 * R + jj < 102; omega) ?_
        refine ev_ifeq 39 46 d_mo_drop_39 (fun c39 => ?_) (fun c39 => ?_)
        · refine ev_iconst_0 46 d_mo_drop_46 ?_
          refine ev_istore_2 47 d_mo_drop_47 ?_
          refine ev_aload_0 48 d_mo_drop_48 ?_
          refine ev_aload_0 49 d_mo_drop_49 ?_
          refine mo_geti 50 29 d_mo_drop_50 lk_208 ?_
          refine ev_ifne 53 60 d_mo_drop_53 (fun c53 => ?_) (fun c53 => ?_)
          · refine ev_iload_2 60 d_mo_drop_60 ?_
            refine ev_ifne 61 68 d_mo_drop_61 (fun c61 => ?_) (fun c61 => ?_)
            · exact absurd rfl c61
            · refine ev_iconst_2 64 d_mo_drop_64 ?_
              refine ev_goto 65 96 d_mo_drop_65 ?_
              refine mo_calli1 96 d_mo_drop_96 hZ kc_157 (mt_refuses hZ _) (fun x F1 B1 h => ?_)
              obtain ⟨hx, e1, e2⟩ := h
              subst F1
              subst B1
              refine ev_ifeq 99 104 d_mo_drop_99 (fun c99 => ?_) (fun c99 => ?_)
              · exact absurd c99 (mo_rk hx (by decide))
              · refine ev_iconst_0 102 d_mo_drop_102 ?_
                refine ev_zret 103 d_mo_drop_103 rfl ?_ ?_
                · first | rfl | (show narrow .boolean (.int (B 18 (17 * R + jj))) = .int (B 18 (17 * R + jj)); rcases hO (17 * R + jj) with z | z <;> rw [z] <;> rfl)
                exact ⟨_, _, _, rfl, rfl, Or.inr (Or.inl ⟨c53, fun j h1 h2 hj => by obtain rfl := (nI_eq (by omega) (by omega)).mp hj; exact c39, rfl, rfl, rfl⟩)⟩
          · exact absurd (show F 29 ≤ 0 by rw [show F 29 = 0 from c53]; decide) c4
        · refine ev_iconst_1 42 d_mo_drop_42 ?_
          refine ev_goto 43 47 d_mo_drop_43 ?_
          refine ev_istore_2 47 d_mo_drop_47 ?_
          refine ev_aload_0 48 d_mo_drop_48 ?_
          refine ev_aload_0 49 d_mo_drop_49 ?_
          refine mo_geti 50 29 d_mo_drop_50 lk_208 ?_
          refine ev_ifne 53 60 d_mo_drop_53 (fun c53 => ?_) (fun c53 => ?_)
          · refine ev_iload_2 60 d_mo_drop_60 ?_
            refine ev_ifne 61 68 d_mo_drop_61 (fun c61 => ?_) (fun c61 => ?_)
            · refine ev_aload_0 68 d_mo_drop_68 ?_
              refine ev_bipush (17) 69 d_mo_drop_69 (by decide) ?_
              refine ev_aload_0 71 d_mo_drop_71 ?_
              refine mo_getr 72 23 30 d_mo_drop_72 lk_80 ?_
              refine ev_aload_0 75 d_mo_drop_75 ?_
              refine mo_geti 76 29 d_mo_drop_76 lk_208 ?_
              refine ev_iconst_1 79 d_mo_drop_79 ?_
              refine ev_isub 80 d_mo_drop_80 ?_
              refine ev_topi (nI (Lv - 1)) (by show F 29 - 1 = nI (Lv - 1); rw [hLv]; exact n_s1 hp) ?_
              refine mo_aldn (j := Lv - 1) 81 23 30 d_mo_drop_81 (by show Lv - 1 < 6; omega) ?_
              refine ev_topi (nI R) (hR hp).1 ?_
              refine ev_imul 82 d_mo_drop_82 ?_
              refine ev_iload_1 83 d_mo_drop_83 ?_
              refine ev_iadd 84 d_mo_drop_84 ?_
              refine ev_topi (nI (17 * R + jj)) (by rw [n_17, pk_mul, nI_add]) ?_
              refine mo_calli1 85 d_mo_drop_85 hZ kc_221 (mt_loans hZ (17 * R + jj) (by have := (hR hp).2; show 17 * R + jj < 102; omega)) (fun y F1 B1 h => ?_)
              obtain ⟨rfl, e1, e2⟩ := h
              subst F1
              subst B1
              refine ev_ifle 88 95 d_mo_drop_88 (fun c88 => ?_) (fun c88 => ?_)
              · refine ev_iconst_0 95 d_mo_drop_95 ?_
                refine mo_calli1 96 d_mo_drop_96 hZ kc_157 (mt_refuses hZ _) (fun x F1 B1 h => ?_)
                obtain ⟨hx, e1, e2⟩ := h
                subst F1
                subst B1
                refine ev_ifeq 99 104 d_mo_drop_99 (fun c99 => ?_) (fun c99 => ?_)
                · refine ev_bipush (17) 104 d_mo_drop_104 (by decide) ?_
                  refine ev_aload_0 106 d_mo_drop_106 ?_
                  refine mo_getr 107 23 30 d_mo_drop_107 lk_80 ?_
                  refine ev_aload_0 110 d_mo_drop_110 ?_
                  refine mo_geti 111 29 d_mo_drop_111 lk_208 ?_
                  refine ev_iconst_1 114 d_mo_drop_114 ?_
                  refine ev_isub 115 d_mo_drop_115 ?_
                  refine ev_topi (nI (Lv - 1)) (by show F 29 - 1 = nI (Lv - 1); rw [hLv]; exact n_s1 hp) ?_
                  refine mo_aldn (j := Lv - 1) 116 23 30 d_mo_drop_116 (by show Lv - 1 < 6; omega) ?_
                  refine ev_topi (nI R) (hR hp).1 ?_
                  refine ev_imul 117 d_mo_drop_117 ?_
                  refine ev_iload_1 118 d_mo_drop_118 ?_
                  refine ev_iadd 119 d_mo_drop_119 ?_
                  refine ev_topi (nI (17 * R + jj)) (by rw [n_17, pk_mul, nI_add]) ?_
                  refine ev_istore_3 120 d_mo_drop_120 ?_
                  refine ev_aload_0 121 d_mo_drop_121 ?_
                  refine mo_getr 122 12 16 d_mo_drop_122 lk_46 ?_
                  refine ev_iload_3 125 d_mo_drop_125 ?_
                  refine ev_iconst_0 126 d_mo_drop_126 ?_
                  refine mo_zstn (j := 17 * R + jj) 127 12 16 d_mo_drop_127 (by have := (hR hp).2; show 17 * R + jj < 102; omega) (by exact Or.inl rfl) ?_
                  refine ev_aload_0 128 d_mo_drop_128 ?_
                  refine mo_getr 129 14 18 d_mo_drop_129 lk_53 ?_
                  refine ev_iload_3 132 d_mo_drop_132 ?_
                  refine mo_zldn (j := 17 * R + jj) 133 14 18 d_mo_drop_133 (by have := (hR hp).2; show 17 * R + jj < 102; omega) ?_
                  refine ev_ifeq 134 149 d_mo_drop_134 (fun c134 => ?_) (fun c134 => ?_)
                  · refine ev_aload_0 149 d_mo_drop_149 ?_
                    refine mo_getr 150 14 18 d_mo_drop_150 lk_53 ?_
                    refine ev_iload_3 153 d_mo_drop_153 ?_
                    refine mo_zldn (j := 17 * R + jj) 154 14 18 d_mo_drop_154 (by have := (hR hp).2; show 17 * R + jj < 102; omega) ?_
                    refine ev_zret 155 d_mo_drop_155 rfl ?_ ?_
                    · first | rfl | (show narrow .boolean (.int (B 18 (17 * R + jj))) = .int (B 18 (17 * R + jj)); rcases hO (17 * R + jj) with z | z <;> rw [z] <;> rfl)
                    exact ⟨_, _, _, rfl, rfl, Or.inr (Or.inr (Or.inr ⟨c53, jj, hj1, hj2, rfl, c39, c88, rfl, rfl, Or.inl ⟨c134, rfl⟩⟩))⟩
                  · refine ev_aload_0 137 d_mo_drop_137 ?_
                    refine mo_getr 138 19 24 d_mo_drop_138 lk_68 ?_
                    refine ev_aload_0 141 d_mo_drop_141 ?_
                    refine mo_getr 142 13 17 d_mo_drop_142 lk_50 ?_
                    refine ev_iload_3 145 d_mo_drop_145 ?_
                    refine mo_aldn (j := 17 * R + jj) 146 13 17 d_mo_drop_146 (by have := (hR hp).2; show 17 * R + jj < 102; omega) ?_
                    refine ev_iconst_1 147 d_mo_drop_147 ?_
                    refine mo_zst 148 19 24 d_mo_drop_148 (by exact hG jj hj1 hj2 c134) ?_
                    refine ev_aload_0 149 d_mo_drop_149 ?_
                    refine mo_getr 150 14 18 d_mo_drop_150 lk_53 ?_
                    refine ev_iload_3 153 d_mo_drop_153 ?_
                    refine mo_zldn (j := 17 * R + jj) 154 14 18 d_mo_drop_154 (by have := (hR hp).2; show 17 * R + jj < 102; omega) ?_
                    refine ev_zret 155 d_mo_drop_155 rfl ?_ ?_
                    · first | rfl | (show narrow .boolean (.int (B 18 (17 * R + jj))) = .int (B 18 (17 * R + jj)); rcases hO (17 * R + jj) with z | z <;> rw [z] <;> rfl)
                    exact ⟨_, _, _, rfl, rfl, Or.inr (Or.inr (Or.inr ⟨c53, jj, hj1, hj2, rfl, c39, c88, rfl, rfl, Or.inr ⟨c134, rfl⟩⟩))⟩
                · exact absurd (mo_r0 hx) c99
              · refine ev_iconst_3 91 d_mo_drop_91 ?_
                refine ev_goto 92 96 d_mo_drop_92 ?_
                refine mo_calli1 96 d_mo_drop_96 hZ kc_157 (mt_refuses hZ _) (fun x F1 B1 h => ?_)
                obtain ⟨hx, e1, e2⟩ := h
                subst F1
                subst B1
                refine ev_ifeq 99 104 d_mo_drop_99 (fun c99 => ?_) (fun c99 => ?_)
                · exact absurd c99 (mo_rk hx (by decide))
                · refine ev_iconst_0 102 d_mo_drop_102 ?_
                  refine ev_zret 103 d_mo_drop_103 rfl ?_ ?_
                  · first | rfl | (show narrow .boolean (.int (B 18 (17 * R + jj))) = .int (B 18 (17 * R + jj)); rcases hO (17 * R + jj) with z | z <;> rw [z] <;> rfl)
                  exact ⟨_, _, _, rfl, rfl, Or.inr (Or.inr (Or.inl ⟨c53, jj, hj1, hj2, rfl, c39, c88, rfl, rfl, rfl⟩))⟩
            · exact absurd c61 (by decide)
          · exact absurd (show F 29 ≤ 0 by rw [show F 29 = 0 from c53]; decide) c4

def mo_hv (B : Nat → Nat → Int32) (y : Nat) (w : Int32) : Int32 := if B 16 y = 0 then -1 else if w = 0 then B 17 y else if w = 1 then B 23 (B 17 y).toNatClampNeg else if w = 2 then (if B 18 y = 0 then 0 else 1) else mo_ln B (nI y) (B 21 y) 102

set_option maxHeartbeats 4000000 in
set_option maxRecDepth 100000 in
theorem mt_handle {l : Launch} {D : va_G} {tl : List (ClassId × FieldType)} {Z : (Nat → Prop) → State → Heap → Prop} {kI kZ : ClassId} {am : Nat → Nat} {F : Nat → Int32} {B : Nat → Nat → Int32} (hZ : ev_Zok Z) (i : Int32) (h : Int32) (w : Int32) (NI : Nat) (hNI : F 12 = nI NI) (hN6 : NI ≤ 6) (hG : ∀ y, y < 102 → ¬ B 16 y = 0 → vp_in (B 17 y) 1024) : MT (mo_π l D cl_A kI kZ tl Z) m_handle 0 0 [.ref (am 60), .int i, .int h, .int w] (mo_W mo_ci am kI kZ F B) (mo_qi am kI kZ (fun x F1 B1 => (((¬ (¬ i < 0 ∧ ¬ F 12 ≤ i) ∨ h < 1 ∨ 16 < h ∨ w < 0 ∨ 3 < w) ∧ x = 0 ∧ F1 = upd F 0 1) ∨ (∃ ii jj, ii < NI ∧ 1 ≤ jj ∧ jj ≤ 16 ∧ i = nI ii ∧ h = nI jj ∧ ¬ w < 0 ∧ ¬ 3 < w ∧ x = mo_hv B (17 * ii + jj) w ∧ F1 = upd F 0 0)) ∧ B1 = B)) := by
  refine mt_of mo_pl rfl (Nat.le_of_ble_eq_true rfl) (ev_eq (lv' := [some (.ref (am 60)), some (.int i), some (.int h), some (.int w), none]) ?_)
  refine ev_aload_0 0 d_mo_handle_0 ?_
  refine ev_aload_0 1 d_mo_handle_1 ?_
  refine ev_iload_1 2 d_mo_handle_2 ?_
  refine mo_calli1 3 d_mo_handle_3 hZ kc_197 (mt_isInstance hZ _) (fun y F1 B1 h => ?_)
  obtain ⟨hy, e1, e2⟩ := h
  subst F1
  subst B1
  refine ev_ifeq 6 29 d_mo_handle_6 (fun c6 => ?_) (fun c6 => ?_)
  · refine ev_iconst_1 29 d_mo_handle_29 ?_
    refine ev_goto 30 34 d_mo_handle_30 ?_
    refine mo_calli1 34 d_mo_handle_34 hZ kc_157 (mt_refuses hZ _) (fun x F1 B1 h => ?_)
    obtain ⟨hx, e1, e2⟩ := h
    subst F1
    subst B1
    refine ev_ifeq 37 42 d_mo_handle_37 (fun c37 => ?_) (fun c37 => ?_)
    · exact absurd c37 (mo_rk hx (by decide))
    · refine ev_iconst_0 40 d_mo_handle_40 ?_
      refine ev_iret 41 d_mo_handle_41 rfl ?_
      exact ⟨_, _, _, rfl, rfl, Or.inl ⟨Or.inl (mo_b0 hy c6), rfl, rfl⟩, rfl⟩
  · refine ev_iload_2 9 d_mo_handle_9 ?_
    refine ev_iconst_1 10 d_mo_handle_10 ?_
    refine ev_icmplt 11 29 d_mo_handle_11 (fun c11 => ?_) (fun c11 => ?_)
    · refine ev_iconst_1 29 d_mo_handle_29 ?_
      refine ev_goto 30 34 d_mo_handle_30 ?_
      refine mo_calli1 34 d_mo_handle_34 hZ kc_157 (mt_refuses hZ _) (fun x F1 B1 h => ?_)
      obtain ⟨hx, e1, e2⟩ := h
      subst F1
      subst B1
      refine ev_ifeq 37 42 d_mo_handle_37 (fun c37 => ?_) (fun c37 => ?_)
      · exact absurd c37 (mo_rk hx (by decide))
      · refine ev_iconst_0 40 d_mo_handle_40 ?_
        refine ev_iret 41 d_mo_handle_41 rfl ?_
        exact ⟨_, _, _, rfl, rfl, Or.inl ⟨Or.inr (Or.inl c11), rfl, rfl⟩, rfl⟩
    · refine ev_iload_2 14 d_mo_handle_14 ?_
      refine ev_bipush (16) 15 d_mo_handle_15 (by decide) ?_
      refine ev_icmpgt 17 29 d_mo_handle_17 (fun c17 => ?_) (fun c17 => ?_)
      · refine ev_iconst_1 29 d_mo_handle_29 ?_
        refine ev_goto 30 34 d_mo_handle_30 ?_
        refine mo_calli1 34 d_mo_handle_34 hZ kc_157 (mt_refuses hZ _) (fun x F1 B1 h => ?_)
        obtain ⟨hx, e1, e2⟩ := h
        subst F1
        subst B1
        refine ev_ifeq 37 42 d_mo_handle_37 (fun c37 => ?_) (fun c37 => ?_)
        · exact absurd c37 (mo_rk hx (by decide))
        · refine ev_iconst_0 40 d_mo_handle_40 ?_
          refine ev_iret 41 d_mo_handle_41 rfl ?_
          exact ⟨_, _, _, rfl, rfl, Or.inl ⟨Or.inr (Or.inr (Or.inl c17)), rfl, rfl⟩, rfl⟩
      · refine ev_iload_3 20 d_mo_handle_20 ?_
        refine ev_iflt 21 29 d_mo_handle_21 (fun c21 => ?_) (fun c21 => ?_)
        · refine ev_iconst_1 29 d_mo_handle_29 ?_
          refine ev_goto 30 34 d_mo_handle_30 ?_
          refine mo_calli1 34 d_mo_handle_34 hZ kc_157 (mt_refuses hZ _) (fun x F1 B1 h => ?_)
          obtain ⟨hx, e1, e2⟩ := h
          subst F1
          subst B1
          refine ev_ifeq 37 42 d_mo_handle_37 (fun c37 => ?_) (fun c37 => ?_)
          · exact absurd c37 (mo_rk hx (by decide))
          · refine ev_iconst_0 40 d_mo_handle_40 ?_
            refine ev_iret 41 d_mo_handle_41 rfl ?_
            exact ⟨_, _, _, rfl, rfl, Or.inl ⟨Or.inr (Or.inr (Or.inr (Or.inl c21))), rfl, rfl⟩, rfl⟩
        · refine ev_iload_3 24 d_mo_handle_24 ?_
          refine ev_iconst_3 25 d_mo_handle_25 ?_
          refine ev_icmple 26 33 d_mo_handle_26 (fun c26 => ?_) (fun c26 => ?_)
          · refine ev_iconst_0 33 d_mo_handle_33 ?_
            refine mo_calli1 34 d_mo_handle_34 hZ kc_157 (mt_refuses hZ _) (fun x F1 B1 h => ?_)
            obtain ⟨hx, e1, e2⟩ := h
            subst F1
            subst B1
            refine ev_ifeq 37 42 d_mo_handle_37 (fun c37 => ?_) (fun c37 => ?_)
            · obtain ⟨ii, hii, rfl⟩ := n_ins hNI hN6 (mo_b1 hy c6)
              obtain ⟨jj, hj1, hj2, rfl⟩ := n_rng c11 c17
              refine ev_bipush (17) 42 d_mo_handle_42 (by decide) ?_
              refine ev_iload_1 44 d_mo_handle_44 ?_
              refine ev_imul 45 d_mo_handle_45 ?_
              refine ev_iload_2 46 d_mo_handle_46 ?_
              refine ev_iadd 47 d_mo_handle_47 ?_
              refine ev_topi (nI (17 * ii + jj)) (by rw [n_17, pk_mul, nI_add]) ?_
              refine ev_istore_4 48 d_mo_handle_48 ?_
              refine ev_aload_0 50 d_mo_handle_50 ?_
              refine mo_getr 51 12 16 d_mo_handle_51 lk_46 ?_
              refine ev_iload_4 54 d_mo_handle_54 ?_
              refine mo_zldn (j := 17 * ii + jj) 56 12 16 d_mo_handle_56 (by show 17 * ii + jj < 102; omega) ?_
              refine ev_ifne 57 62 d_mo_handle_57 (fun c57 => ?_) (fun c57 => ?_)
              · refine ev_iload_3 62 d_mo_handle_62 ?_
                refine ev_ifne 63 76 d_mo_handle_63 (fun c63 => ?_) (fun c63 => ?_)
                · refine ev_iload_3 76 d_mo_handle_76 ?_
                  refine ev_iconst_1 77 d_mo_handle_77 ?_
                  refine ev_icmpne 78 96 d_mo_handle_78 (fun c78 => ?_) (fun c78 => ?_)
                  · refine ev_iload_3 96 d_mo_handle_96 ?_
                    refine ev_iconst_2 97 d_mo_handle_97 ?_
                    refine ev_icmpne 98 119 d_mo_handle_98 (fun c98 => ?_) (fun c98 => ?_)
                    · refine ev_aload_0 119 d_mo_handle_119 ?_
                      refine ev_iload_4 120 d_mo_handle_120 ?_
                      refine mo_calli1 122 d_mo_handle_122 hZ kc_221 (mt_loans hZ (17 * ii + jj) (by show 17 * ii + jj < 102; omega)) (fun y F1 B1 h => ?_)
                      obtain ⟨rfl, e1, e2⟩ := h
                      subst F1
                      subst B1
                      refine ev_iret 125 d_mo_handle_125 rfl ?_
                      exact ⟨_, _, _, rfl, rfl, Or.inr ⟨ii, jj, hii, hj1, hj2, rfl, rfl, c21, Int32.not_lt.mpr c26, by rw [mo_hv, if_neg c57, if_neg c63, if_neg c78, if_neg c98], rfl⟩, rfl⟩
                    · refine ev_aload_0 101 d_mo_handle_101 ?_
                      refine mo_getr 102 14 18 d_mo_handle_102 lk_53 ?_
                      refine ev_iload_4 105 d_mo_handle_105 ?_
                      refine mo_zldn (j := 17 * ii + jj) 107 14 18 d_mo_handle_107 (by show 17 * ii + jj < 102; omega) ?_
                      refine ev_ifeq 108 115 d_mo_handle_108 (fun c108 => ?_) (fun c108 => ?_)
                      · refine ev_iconst_0 115 d_mo_handle_115 ?_
                        refine ev_goto 116 125 d_mo_handle_116 ?_
                        refine ev_iret 125 d_mo_handle_125 rfl ?_
                        exact ⟨_, _, _, rfl, rfl, Or.inr ⟨ii, jj, hii, hj1, hj2, rfl, rfl, c21, Int32.not_lt.mpr c26, by rw [mo_hv, if_neg c57, if_neg c63, if_neg c78, if_pos c98, if_pos c108], rfl⟩, rfl⟩
                      · refine ev_iconst_1 111 d_mo_handle_111 ?_
                        refine ev_goto 112 125 d_mo_handle_112 ?_
                        refine ev_iret 125 d_mo_handle_125 rfl ?_
                        exact ⟨_, _, _, rfl, rfl, Or.inr ⟨ii, jj, hii, hj1, hj2, rfl, rfl, c21, Int32.not_lt.mpr c26, by rw [mo_hv, if_neg c57, if_neg c63, if_neg c78, if_pos c98, if_neg c108], rfl⟩, rfl⟩
                  · refine ev_aload_0 81 d_mo_handle_81 ?_
                    refine mo_getr 82 18 23 d_mo_handle_82 lk_65 ?_
                    refine ev_aload_0 85 d_mo_handle_85 ?_
                    refine mo_getr 86 13 17 d_mo_handle_86 lk_50 ?_
                    refine ev_iload_4 89 d_mo_handle_89 ?_
                    refine mo_aldn (j := 17 * ii + jj) 91 13 17 d_mo_handle_91 (by show 17 * ii + jj < 102; omega) ?_
                    refine mo_ald 92 18 23 d_mo_handle_92 (by exact hG (17 * ii + jj) (by omega) c57) ?_
                    refine ev_goto 93 125 d_mo_handle_93 ?_
                    refine ev_iret 125 d_mo_handle_125 rfl ?_
                    exact ⟨_, _, _, rfl, rfl, Or.inr ⟨ii, jj, hii, hj1, hj2, rfl, rfl, c21, Int32.not_lt.mpr c26, by rw [mo_hv, if_neg c57, if_neg c63, if_pos c78], rfl⟩, rfl⟩
                · refine ev_aload_0 66 d_mo_handle_66 ?_
                  refine mo_getr 67 13 17 d_mo_handle_67 lk_50 ?_
                  refine ev_iload_4 70 d_mo_handle_70 ?_
                  refine mo_aldn (j := 17 * ii + jj) 72 13 17 d_mo_handle_72 (by show 17 * ii + jj < 102; omega) ?_
                  refine ev_goto 73 125 d_mo_handle_73 ?_
                  refine ev_iret 125 d_mo_handle_125 rfl ?_
                  exact ⟨_, _, _, rfl, rfl, Or.inr ⟨ii, jj, hii, hj1, hj2, rfl, rfl, c21, Int32.not_lt.mpr c26, by rw [mo_hv, if_neg c57, if_pos c63], rfl⟩, rfl⟩
              · refine ev_iconst_m1 60 d_mo_handle_60 ?_
                refine ev_iret 61 d_mo_handle_61 rfl ?_
                exact ⟨_, _, _, rfl, rfl, Or.inr ⟨ii, jj, hii, hj1, hj2, rfl, rfl, c21, Int32.not_lt.mpr c26, by rw [mo_hv, if_pos c57], rfl⟩, rfl⟩
            · exact absurd (mo_r0 hx) c37
          · refine ev_iconst_1 29 d_mo_handle_29 ?_
            refine ev_goto 30 34 d_mo_handle_30 ?_
            refine mo_calli1 34 d_mo_handle_34 hZ kc_157 (mt_refuses hZ _) (fun x F1 B1 h => ?_)
            obtain ⟨hx, e1, e2⟩ := h
            subst F1
            subst B1
            refine ev_ifeq 37 42 d_mo_handle_37 (fun c37 => ?_) (fun c37 => ?_)
            · exact absurd c37 (mo_rk hx (by decide))
            · refine ev_iconst_0 40 d_mo_handle_40 ?_
              refine ev_iret 41 d_mo_handle_41 rfl ?_
              exact ⟨_, _, _, rfl, rfl, Or.inl ⟨Or.inr (Or.inr (Or.inr (Or.inr (Int32.not_le.mp c26)))), rfl, rfl⟩, rfl⟩

set_option maxHeartbeats 4000000 in
set_option maxRecDepth 100000 in
theorem mt_state {l : Launch} {D : va_G} {tl : List (ClassId × FieldType)} {Z : (Nat → Prop) → State → Heap → Prop} {kI kZ : ClassId} {am : Nat → Nat} {F : Nat → Int32} {B : Nat → Nat → Int32} (hZ : ev_Zok Z) (i : Int32) (w : Int32) (NI : Nat) (hNI : F 12 = nI NI) (hN6 : NI ≤ 6) : MT (mo_π l D cl_A kI kZ tl Z) m_state 0 0 [.ref (am 60), .int i, .int w] (mo_W mo_ci am kI kZ F B) (mo_qi am kI kZ (fun x F1 B1 => (((¬ (¬ i < 0 ∧ ¬ F 12 ≤ i) ∨ w < 0 ∨ 2 < w) ∧ x = 0 ∧ F1 = upd F 0 1) ∨ (∃ ii, ii < NI ∧ i = nI ii ∧ ¬ w < 0 ∧ ¬ 2 < w ∧ x = (if w = 0 then B 15 ii else if w = 1 then B 14 ii else nI (mo_iu (B 16) (17 * ii) 16)) ∧ F1 = upd F 0 0)) ∧ B1 = B)) := by
  refine mt_of mo_pl rfl (Nat.le_of_ble_eq_true rfl) (ev_eq (lv' := [some (.ref (am 60)), some (.int i), some (.int w)]) ?_)
  refine ev_aload_0 0 d_mo_state_0 ?_
  refine ev_aload_0 1 d_mo_state_1 ?_
  refine ev_iload_1 2 d_mo_state_2 ?_
  refine mo_calli1 3 d_mo_state_3 hZ kc_197 (mt_isInstance hZ _) (fun y F1 B1 h => ?_)
  obtain ⟨hy, e1, e2⟩ := h
  subst F1
  subst B1
  refine ev_ifeq 6 18 d_mo_state_6 (fun c6 => ?_) (fun c6 => ?_)
  · refine ev_iconst_1 18 d_mo_state_18 ?_
    refine ev_goto 19 23 d_mo_state_19 ?_
    refine mo_calli1 23 d_mo_state_23 hZ kc_157 (mt_refuses hZ _) (fun x F1 B1 h => ?_)
    obtain ⟨hx, e1, e2⟩ := h
    subst F1
    subst B1
    refine ev_ifeq 26 31 d_mo_state_26 (fun c26 => ?_) (fun c26 => ?_)
    · exact absurd c26 (mo_rk hx (by decide))
    · refine ev_iconst_0 29 d_mo_state_29 ?_
      refine ev_iret 30 d_mo_state_30 rfl ?_
      exact ⟨_, _, _, rfl, rfl, Or.inl ⟨Or.inl (mo_b0 hy c6), rfl, rfl⟩, rfl⟩
  · refine ev_iload_2 9 d_mo_state_9 ?_
    refine ev_iflt 10 18 d_mo_state_10 (fun c10 => ?_) (fun c10 => ?_)
    · refine ev_iconst_1 18 d_mo_state_18 ?_
      refine ev_goto 19 23 d_mo_state_19 ?_
      refine mo_calli1 23 d_mo_state_23 hZ kc_157 (mt_refuses hZ _) (fun x F1 B1 h => ?_)
      obtain ⟨hx, e1, e2⟩ := h
      subst F1
      subst B1
      refine ev_ifeq 26 31 d_mo_state_26 (fun c26 => ?_) (fun c26 => ?_)
      · exact absurd c26 (mo_rk hx (by decide))
      · refine ev_iconst_0 29 d_mo_state_29 ?_
        refine ev_iret 30 d_mo_state_30 rfl ?_
        exact ⟨_, _, _, rfl, rfl, Or.inl ⟨Or.inr (Or.inl c10), rfl, rfl⟩, rfl⟩
    · refine ev_iload_2 13 d_mo_state_13 ?_
      refine ev_iconst_2 14 d_mo_state_14 ?_
      refine ev_icmple 15 22 d_mo_state_15 (fun c15 => ?_) (fun c15 => ?_)
      · refine ev_iconst_0 22 d_mo_state_22 ?_
        refine mo_calli1 23 d_mo_state_23 hZ kc_157 (mt_refuses hZ _) (fun x F1 B1 h => ?_)
        obtain ⟨hx, e1, e2⟩ := h
        subst F1
        subst B1
        refine ev_ifeq 26 31 d_mo_state_26 (fun c26 => ?_) (fun c26 => ?_)
        · obtain ⟨ii, hii, rfl⟩ := n_ins hNI hN6 (mo_b1 hy c6)
          refine ev_iload_2 31 d_mo_state_31 ?_
          refine ev_ifne 32 44 d_mo_state_32 (fun c32 => ?_) (fun c32 => ?_)
          · refine ev_iload_2 44 d_mo_state_44 ?_
            refine ev_iconst_1 45 d_mo_state_45 ?_
            refine ev_icmpne 46 58 d_mo_state_46 (fun c46 => ?_) (fun c46 => ?_)
            · refine ev_aload_0 58 d_mo_state_58 ?_
              refine ev_iload_1 59 d_mo_state_59 ?_
              refine mo_calli1 60 d_mo_state_60 hZ kc_291 (mt_inUse hZ ii (by omega)) (fun y F1 B1 h => ?_)
              obtain ⟨rfl, e1, e2⟩ := h
              subst F1
              subst B1
              refine ev_iret 63 d_mo_state_63 rfl ?_
              exact ⟨_, _, _, rfl, rfl, Or.inr ⟨ii, hii, rfl, c10, Int32.not_lt.mpr c15, by rw [if_neg c32, if_neg c46], rfl⟩, rfl⟩
            · refine ev_aload_0 49 d_mo_state_49 ?_
              refine mo_getr 50 10 14 d_mo_state_50 lk_40 ?_
              refine ev_iload_1 53 d_mo_state_53 ?_
              refine mo_aldn (j := ii) 54 10 14 d_mo_state_54 (by show ii < 6; omega) ?_
              refine ev_goto 55 63 d_mo_state_55 ?_
              refine ev_iret 63 d_mo_state_63 rfl ?_
              exact ⟨_, _, _, rfl, rfl, Or.inr ⟨ii, hii, rfl, c10, Int32.not_lt.mpr c15, by rw [if_neg c32, if_pos c46], rfl⟩, rfl⟩
          · refine ev_aload_0 35 d_mo_state_35 ?_
            refine mo_getr 36 11 15 d_mo_state_36 lk_43 ?_
            refine ev_iload_1 39 d_mo_state_39 ?_
            refine mo_aldn (j := ii) 40 11 15 d_mo_state_40 (by show ii < 6; omega) ?_
            refine ev_goto 41 63 d_mo_state_41 ?_
            refine ev_iret 63 d_mo_state_63 rfl ?_
            exact ⟨_, _, _, rfl, rfl, Or.inr ⟨ii, hii, rfl, c10, Int32.not_lt.mpr c15, by rw [if_pos c32], rfl⟩, rfl⟩
        · exact absurd (mo_r0 hx) c26
      · refine ev_iconst_1 18 d_mo_state_18 ?_
        refine ev_goto 19 23 d_mo_state_19 ?_
        refine mo_calli1 23 d_mo_state_23 hZ kc_157 (mt_refuses hZ _) (fun x F1 B1 h => ?_)
        obtain ⟨hx, e1, e2⟩ := h
        subst F1
        subst B1
        refine ev_ifeq 26 31 d_mo_state_26 (fun c26 => ?_) (fun c26 => ?_)
        · exact absurd c26 (mo_rk hx (by decide))
        · refine ev_iconst_0 29 d_mo_state_29 ?_
          refine ev_iret 30 d_mo_state_30 rfl ?_
          exact ⟨_, _, _, rfl, rfl, Or.inl ⟨Or.inr (Or.inr (Int32.not_le.mp c15)), rfl, rfl⟩, rfl⟩

/-- how many of the first n resources are of the kind k, and gone or not -/
def mo_rs (B : Nat → Nat → Int32) (k g : Int32) : Nat → Nat
  | 0 => 0
  | n + 1 => if B 23 n = k ∧ B 24 n = g then mo_rs B k g n + 1 else mo_rs B k g n

set_option maxHeartbeats 4000000 in
set_option maxRecDepth 100000 in
theorem mt_resources {l : Launch} {D : va_G} {tl : List (ClassId × FieldType)} {Z : (Nat → Prop) → State → Heap → Prop} {kI kZ : ClassId} {am : Nat → Nat} {F : Nat → Int32} {B : Nat → Nat → Int32} (hZ : ev_Zok Z) (k : Int32) (g : Int32) (Md : Nat) (hM : F 22 = nI Md) (hM2 : Md ≤ 1024) : MT (mo_π l D cl_A kI kZ tl Z) m_resources 0 0 [.ref (am 60), .int k, .int g] (mo_W mo_ci am kI kZ F B) (mo_qi am kI kZ (fun x F1 B1 => (((k < 0 ∨ 3 < k) ∧ x = 0 ∧ F1 = upd F 0 1) ∨ (¬ k < 0 ∧ ¬ 3 < k ∧ x = nI (mo_rs B k g Md) ∧ F1 = upd F 0 0)) ∧ B1 = B)) := by
  refine mt_of mo_pl rfl (Nat.le_of_ble_eq_true rfl) (ev_eq (lv' := [some (.ref (am 60)), some (.int k), some (.int g), none, none]) ?_)
  have L28 : ¬ k < 0 → k ≤ 3 → ∀ m n : Nat, Md - n < m → n ≤ Md → EV (mo_π l D cl_A kI kZ tl Z) m_resources (ev_E (mo_π l D cl_A kI kZ tl Z) 0 0 (mo_qi am kI kZ (fun x F1 B1 => (((k < 0 ∨ 3 < k) ∧ x = 0 ∧ F1 = upd F 0 1) ∨ (¬ k < 0 ∧ ¬ 3 < k ∧ x = nI (mo_rs B k g Md) ∧ F1 = upd F 0 0)) ∧ B1 = B))) 0 0 28 [some (.ref (am 60)), some (.int k), some (.int g), some (.int (nI (mo_rs B k g n))), some (.int (nI n))] [] (mo_W mo_ci am kI kZ (upd F 0 0) B) := by
    intro c2 c7 m
    induction m with
    | zero => intro n h; omega
    | succ m ih =>
      intro n hm hn
      refine ev_iload_4 28 d_mo_resources_28 ?_
      refine ev_aload_0 30 d_mo_resources_30 ?_
      refine mo_geti 31 22 d_mo_resources_31 lk_218 ?_
      refine ev_icmpge 34 73 d_mo_resources_34 (fun c34 => ?_) (fun c34 => ?_)
      · have h34 := n_le Md n c34 hM
        obtain rfl : n = Md := by omega
        refine ev_iload_3 73 d_mo_resources_73 ?_
        refine ev_iret 74 d_mo_resources_74 rfl ?_
        exact ⟨_, _, _, rfl, rfl, Or.inr ⟨c2, Int32.not_lt.mpr c7, rfl, rfl⟩, rfl⟩
      · have h34 := n_nle Md n c34 hM
        refine ev_aload_0 37 d_mo_resources_37 ?_
        refine mo_getr 38 18 23 d_mo_resources_38 lk_65 ?_
        refine ev_iload_4 41 d_mo_resources_41 ?_
        refine mo_aldn (j := n) 43 18 23 d_mo_resources_43 (by show n < 1024; omega) ?_
        refine ev_iload_1 44 d_mo_resources_44 ?_
        refine ev_icmpne 45 65 d_mo_resources_45 (fun c45 => ?_) (fun c45 => ?_)
        · refine ev_iload_3 65 d_mo_resources_65 ?_
          refine ev_istore_3 66 d_mo_resources_66 ?_
          refine ev_iinc_4 67 d_mo_resources_67 ?_
          refine ev_goto 70 28 d_mo_resources_70 ?_
          exact ev_eq (ih (n + 1) (by omega) (by omega)) (h1 := by rw [n_i1, mo_rs, if_neg (fun z => c45 z.1)])
        · refine ev_aload_0 48 d_mo_resources_48 ?_
          refine mo_getr 49 19 24 d_mo_resources_49 lk_68 ?_
          refine ev_iload_4 52 d_mo_resources_52 ?_
          refine mo_zldn (j := n) 54 19 24 d_mo_resources_54 (by show n < 1024; omega) ?_
          refine ev_iload_2 55 d_mo_resources_55 ?_
          refine ev_icmpne 56 65 d_mo_resources_56 (fun c56 => ?_) (fun c56 => ?_)
          · refine ev_iload_3 65 d_mo_resources_65 ?_
            refine ev_istore_3 66 d_mo_resources_66 ?_
            refine ev_iinc_4 67 d_mo_resources_67 ?_
            refine ev_goto 70 28 d_mo_resources_70 ?_
            exact ev_eq (ih (n + 1) (by omega) (by omega)) (h1 := by rw [n_i1, mo_rs, if_neg (fun z => c56 z.2)])
          · refine ev_iload_3 59 d_mo_resources_59 ?_
            refine ev_iconst_1 60 d_mo_resources_60 ?_
            refine ev_iadd 61 d_mo_resources_61 ?_
            refine ev_goto 62 66 d_mo_resources_62 ?_
            refine ev_istore_3 66 d_mo_resources_66 ?_
            refine ev_iinc_4 67 d_mo_resources_67 ?_
            refine ev_goto 70 28 d_mo_resources_70 ?_
            exact ev_eq (ih (n + 1) (by omega) (by omega)) (h1 := by rw [n_i1, mo_rs, if_pos ⟨c45, c56⟩, nI_1])
  refine ev_aload_0 0 d_mo_resources_0 ?_
  refine ev_iload_1 1 d_mo_resources_1 ?_
  refine ev_iflt 2 10 d_mo_resources_2 (fun c2 => ?_) (fun c2 => ?_)
  · refine ev_iconst_1 10 d_mo_resources_10 ?_
    refine ev_goto 11 15 d_mo_resources_11 ?_
    refine mo_calli1 15 d_mo_resources_15 hZ kc_157 (mt_refuses hZ _) (fun x F1 B1 h => ?_)
    obtain ⟨hx, e1, e2⟩ := h
    subst F1
    subst B1
    refine ev_ifeq 18 23 d_mo_resources_18 (fun c18 => ?_) (fun c18 => ?_)
    · exact absurd c18 (mo_rk hx (by decide))
    · refine ev_iconst_0 21 d_mo_resources_21 ?_
      refine ev_iret 22 d_mo_resources_22 rfl ?_
      exact ⟨_, _, _, rfl, rfl, Or.inl ⟨Or.inl c2, rfl, rfl⟩, rfl⟩
  · refine ev_iload_1 5 d_mo_resources_5 ?_
    refine ev_iconst_3 6 d_mo_resources_6 ?_
    refine ev_icmple 7 14 d_mo_resources_7 (fun c7 => ?_) (fun c7 => ?_)
    · refine ev_iconst_0 14 d_mo_resources_14 ?_
      refine mo_calli1 15 d_mo_resources_15 hZ kc_157 (mt_refuses hZ _) (fun x F1 B1 h => ?_)
      obtain ⟨hx, e1, e2⟩ := h
      subst F1
      subst B1
      refine ev_ifeq 18 23 d_mo_resources_18 (fun c18 => ?_) (fun c18 => ?_)
      · refine ev_iconst_0 23 d_mo_resources_23 ?_
        refine ev_istore_3 24 d_mo_resources_24 ?_
        refine ev_iconst_0 25 d_mo_resources_25 ?_
        refine ev_istore_4 26 d_mo_resources_26 ?_
        exact L28 c2 c7 (Md + 1) 0 (by omega) (by omega)
      · exact absurd (mo_r0 hx) c18
    · refine ev_iconst_1 10 d_mo_resources_10 ?_
      refine ev_goto 11 15 d_mo_resources_11 ?_
      refine mo_calli1 15 d_mo_resources_15 hZ kc_157 (mt_refuses hZ _) (fun x F1 B1 h => ?_)
      obtain ⟨hx, e1, e2⟩ := h
      subst F1
      subst B1
      refine ev_ifeq 18 23 d_mo_resources_18 (fun c18 => ?_) (fun c18 => ?_)
      · exact absurd c18 (mo_rk hx (by decide))
      · refine ev_iconst_0 21 d_mo_resources_21 ?_
        refine ev_iret 22 d_mo_resources_22 rfl ?_
        exact ⟨_, _, _, rfl, rfl, Or.inl ⟨Or.inr (Int32.not_le.mp c7), rfl, rfl⟩, rfl⟩

/-- what closing does to the first n handles: in use, gone, how many were destroyed -/
def mo_cl (B : Nat → Nat → Int32) (b : Nat) : Nat → (Nat → Int32) × (Nat → Int32) × Nat
  | 0 => (B 16, B 24, 0)
  | n + 1 => if ¬ (mo_cl B b n).1 (b + (n + 1)) = 0 ∧ ¬ B 18 (b + (n + 1)) = 0 then (upd (mo_cl B b n).1 (b + (n + 1)) 0, upd (mo_cl B b n).2.1 (B 17 (b + (n + 1))).toNatClampNeg 1, (mo_cl B b n).2.2 + 1) else (upd (mo_cl B b n).1 (b + (n + 1)) 0, (mo_cl B b n).2.1, (mo_cl B b n).2.2)
theorem mo_u4 (B : Nat → Nat → Int32) (a c : Nat) (f g f' g' : Nat → Int32) (h : a ≠ c) : va_up (va_up (va_up (va_up B a f) c g) a f') c g' = va_up (va_up B a f') c g' := by
  funext k
  by_cases e : k = c
  · subst e; simp [va_up]
  · by_cases e2 : k = a
    · subst e2; simp [va_up, e]
    · simp [va_up, e, e2]

set_option maxHeartbeats 4000000 in
set_option maxRecDepth 100000 in
theorem mt_close {l : Launch} {D : va_G} {tl : List (ClassId × FieldType)} {Z : (Nat → Prop) → State → Heap → Prop} {kI kZ : ClassId} {am : Nat → Nat} {F : Nat → Int32} {B : Nat → Nat → Int32} (hZ : ev_Zok Z) (i : Int32) (NI : Nat) (hNI : F 12 = nI NI) (hN6 : NI ≤ 6) (hG : ∀ y, y < 102 → ¬ B 16 y = 0 → ¬ B 18 y = 0 → vp_in (B 17 y) 1024) (hU : ∀ ii n, (mo_cl B (17 * ii) n).1 (17 * ii + (n + 1)) = B 16 (17 * ii + (n + 1))) : MT (mo_π l D cl_A kI kZ tl Z) m_close 0 0 [.ref (am 60), .int i] (mo_W mo_ci am kI kZ F B) (mo_qi am kI kZ (fun x F1 B1 => (¬ (¬ i < 0 ∧ ¬ F 12 ≤ i) ∧ x = 0 ∧ F1 = upd F 0 1 ∧ B1 = B) ∨ (∃ ii, ii < NI ∧ i = nI ii ∧ (B 15 ii = 1 ∨ B 15 ii = 3) ∧ x = 0 ∧ F1 = upd F 0 2 ∧ B1 = B) ∨ (∃ ii, ii < NI ∧ i = nI ii ∧ ¬ B 15 ii = 1 ∧ ¬ B 15 ii = 3 ∧ x = nI (mo_cl B (17 * ii) 16).2.2 ∧ F1 = upd F 0 0 ∧ B1 = va_up (va_up (va_up B 24 (mo_cl B (17 * ii) 16).2.1) 16 (mo_cl B (17 * ii) 16).1) 15 (upd (B 15) ii 3)))) := by
  refine mt_of mo_pl rfl (Nat.le_of_ble_eq_true rfl) (ev_eq (lv' := [some (.ref (am 60)), some (.int i), none, none, none]) ?_)
  have L50 : ∀ ii : Nat, ii < NI → i = nI ii → ¬ B 15 ii = 1 → ¬ B 15 ii = 3 → ∀ m n : Nat, 16 - n < m → n ≤ 16 → ∀ o4 : Option Value, EV (mo_π l D cl_A kI kZ tl Z) m_close (ev_E (mo_π l D cl_A kI kZ tl Z) 0 0 (mo_qi am kI kZ (fun x F1 B1 => (¬ (¬ i < 0 ∧ ¬ F 12 ≤ i) ∧ x = 0 ∧ F1 = upd F 0 1 ∧ B1 = B) ∨ (∃ ii, ii < NI ∧ i = nI ii ∧ (B 15 ii = 1 ∨ B 15 ii = 3) ∧ x = 0 ∧ F1 = upd F 0 2 ∧ B1 = B) ∨ (∃ ii, ii < NI ∧ i = nI ii ∧ ¬ B 15 ii = 1 ∧ ¬ B 15 ii = 3 ∧ x = nI (mo_cl B (17 * ii) 16).2.2 ∧ F1 = upd F 0 0 ∧ B1 = va_up (va_up (va_up B 24 (mo_cl B (17 * ii) 16).2.1) 16 (mo_cl B (17 * ii) 16).1) 15 (upd (B 15) ii 3))))) 0 0 50 [some (.ref (am 60)), some (.int (nI ii)), some (.int (nI (mo_cl B (17 * ii) n).2.2)), some (.int (nI (n + 1))), o4] [] (mo_W mo_ci am kI kZ (upd F 0 0) (va_up (va_up B 24 (mo_cl B (17 * ii) n).2.1) 16 (mo_cl B (17 * ii) n).1)) := by
    intro ii hii hi0 q1 q2 m
    subst hi0
    induction m with
    | zero => intro n h; omega
    | succ m ih =>
      intro n hm hn o4
      refine ev_iload_3 50 d_mo_close_50 ?_
      refine ev_bipush (16) 51 d_mo_close_51 (by decide) ?_
      refine ev_icmpgt 53 114 d_mo_close_53 (fun c53 => ?_) (fun c53 => ?_)
      · have h53 := n_lt 16 (n + 1) c53
        obtain rfl : n = 16 := by omega
        refine ev_aload_0 114 d_mo_close_114 ?_
        refine mo_getr 115 11 15 d_mo_close_115 lk_43 ?_
        refine ev_iload_1 118 d_mo_close_118 ?_
        refine ev_iconst_3 119 d_mo_close_119 ?_
        refine mo_astn (j := ii) 120 11 15 d_mo_close_120 (by show ii < 6; omega) ?_
        refine ev_iload_2 121 d_mo_close_121 ?_
        refine ev_iret 122 d_mo_close_122 rfl ?_
        exact ⟨_, _, _, rfl, rfl, Or.inr (Or.inr ⟨ii, hii, rfl, q1, q2, rfl, rfl, rfl⟩)⟩
      · have h53 := n_nlt 16 (n + 1) c53
        refine ev_bipush (17) 56 d_mo_close_56 (by decide) ?_
        refine ev_iload_1 58 d_mo_close_58 ?_
        refine ev_imul 59 d_mo_close_59 ?_
        refine ev_iload_3 60 d_mo_close_60 ?_
        refine ev_iadd 61 d_mo_close_61 ?_
        refine ev_topi (nI (17 * ii + (n + 1))) (by rw [n_17, pk_mul, nI_add]) ?_
        refine ev_istore_4 62 d_mo_close_62 ?_
        refine ev_aload_0 64 d_mo_close_64 ?_
        refine mo_getr 65 12 16 d_mo_close_65 lk_46 ?_
        refine ev_iload_4 68 d_mo_close_68 ?_
        refine mo_zldn (j := 17 * ii + (n + 1)) 70 12 16 d_mo_close_70 (by show 17 * ii + (n + 1) < 102; omega) ?_
        refine ev_ifeq 71 100 d_mo_close_71 (fun c71 => ?_) (fun c71 => ?_)
        · refine ev_aload_0 100 d_mo_close_100 ?_
          refine mo_getr 101 12 16 d_mo_close_101 lk_46 ?_
          refine ev_iload_4 104 d_mo_close_104 ?_
          refine ev_iconst_0 106 d_mo_close_106 ?_
          refine mo_zstn (j := 17 * ii + (n + 1)) 107 12 16 d_mo_close_107 (by show 17 * ii + (n + 1) < 102; omega) (by exact Or.inl rfl) ?_
          refine ev_iinc_3 108 d_mo_close_108 ?_
          refine ev_goto 111 50 d_mo_close_111 ?_
          exact ev_eq (ih (n + 1) (by omega) (by omega) _) (h1 := by rw [n_i1, mo_cl, if_neg (fun z => z.1 c71)]) (h3 := by rw [mo_cl, if_neg (fun z => z.1 c71)]; exact congrArg (mo_W mo_ci am kI kZ (upd F 0 0)) (bx_uu _ 16 _ _))
        · refine ev_aload_0 74 d_mo_close_74 ?_
          refine mo_getr 75 14 18 d_mo_close_75 lk_53 ?_
          refine ev_iload_4 78 d_mo_close_78 ?_
          refine mo_zldn (j := 17 * ii + (n + 1)) 80 14 18 d_mo_close_80 (by show 17 * ii + (n + 1) < 102; omega) ?_
          refine ev_ifeq 81 100 d_mo_close_81 (fun c81 => ?_) (fun c81 => ?_)
          · refine ev_aload_0 100 d_mo_close_100 ?_
            refine mo_getr 101 12 16 d_mo_close_101 lk_46 ?_
            refine ev_iload_4 104 d_mo_close_104 ?_
            refine ev_iconst_0 106 d_mo_close_106 ?_
            refine mo_zstn (j := 17 * ii + (n + 1)) 107 12 16 d_mo_close_107 (by show 17 * ii + (n + 1) < 102; omega) (by exact Or.inl rfl) ?_
            refine ev_iinc_3 108 d_mo_close_108 ?_
            refine ev_goto 111 50 d_mo_close_111 ?_
            exact ev_eq (ih (n + 1) (by omega) (by omega) _) (h1 := by rw [n_i1, mo_cl, if_neg (fun z => z.2 c81)]) (h3 := by rw [mo_cl, if_neg (fun z => z.2 c81)]; exact congrArg (mo_W mo_ci am kI kZ (upd F 0 0)) (bx_uu _ 16 _ _))
          · refine ev_aload_0 84 d_mo_close_84 ?_
            refine mo_getr 85 19 24 d_mo_close_85 lk_68 ?_
            refine ev_aload_0 88 d_mo_close_88 ?_
            refine mo_getr 89 13 17 d_mo_close_89 lk_50 ?_
            refine ev_iload_4 92 d_mo_close_92 ?_
            refine mo_aldn (j := 17 * ii + (n + 1)) 94 13 17 d_mo_close_94 (by show 17 * ii + (n + 1) < 102; omega) ?_
            refine ev_iconst_1 95 d_mo_close_95 ?_
            refine mo_zst 96 19 24 d_mo_close_96 (by exact hG (17 * ii + (n + 1)) (by omega) (fun z => c71 ((hU ii n).trans z)) c81) ?_
            refine ev_iinc_2 97 d_mo_close_97 ?_
            refine ev_aload_0 100 d_mo_close_100 ?_
            refine mo_getr 101 12 16 d_mo_close_101 lk_46 ?_
            refine ev_iload_4 104 d_mo_close_104 ?_
            refine ev_iconst_0 106 d_mo_close_106 ?_
            refine mo_zstn (j := 17 * ii + (n + 1)) 107 12 16 d_mo_close_107 (by show 17 * ii + (n + 1) < 102; omega) (by exact Or.inl rfl) ?_
            refine ev_iinc_3 108 d_mo_close_108 ?_
            refine ev_goto 111 50 d_mo_close_111 ?_
            exact ev_eq (ih (n + 1) (by omega) (by omega) _) (h1 := by rw [n_i1, n_i1, mo_cl, if_pos ⟨c71, c81⟩]) (h3 := by rw [mo_cl, if_pos ⟨c71, c81⟩]; exact congrArg (mo_W mo_ci am kI kZ (upd F 0 0)) (mo_u4 B 24 16 _ _ _ _ (by decide)))
  refine ev_aload_0 0 d_mo_close_0 ?_
  refine ev_aload_0 1 d_mo_close_1 ?_
  refine ev_iload_1 2 d_mo_close_2 ?_
  refine mo_calli1 3 d_mo_close_3 hZ kc_197 (mt_isInstance hZ _) (fun y F1 B1 h => ?_)
  obtain ⟨hy, e1, e2⟩ := h
  subst F1
  subst B1
  refine ev_ifne 6 13 d_mo_close_6 (fun c6 => ?_) (fun c6 => ?_)
  · obtain ⟨ii, hii, rfl⟩ := n_ins hNI hN6 (mo_b1 hy c6)
    refine ev_aload_0 13 d_mo_close_13 ?_
    refine mo_getr 14 11 15 d_mo_close_14 lk_43 ?_
    refine ev_iload_1 17 d_mo_close_17 ?_
    refine mo_aldn (j := ii) 18 11 15 d_mo_close_18 (by show ii < 6; omega) ?_
    refine ev_iconst_1 19 d_mo_close_19 ?_
    refine ev_icmpeq 20 33 d_mo_close_20 (fun c20 => ?_) (fun c20 => ?_)
    · refine ev_iconst_2 33 d_mo_close_33 ?_
      refine ev_goto 34 38 d_mo_close_34 ?_
      refine mo_calli1 38 d_mo_close_38 hZ kc_157 (mt_refuses hZ _) (fun x F1 B1 h => ?_)
      obtain ⟨hx, e1, e2⟩ := h
      subst F1
      subst B1
      refine ev_ifeq 41 46 d_mo_close_41 (fun c41 => ?_) (fun c41 => ?_)
      · exact absurd c41 (mo_rk hx (by decide))
      · refine ev_iconst_0 44 d_mo_close_44 ?_
        refine ev_iret 45 d_mo_close_45 rfl ?_
        exact ⟨_, _, _, rfl, rfl, Or.inr (Or.inl ⟨ii, hii, rfl, Or.inl c20, rfl, rfl, rfl⟩)⟩
    · refine ev_aload_0 23 d_mo_close_23 ?_
      refine mo_getr 24 11 15 d_mo_close_24 lk_43 ?_
      refine ev_iload_1 27 d_mo_close_27 ?_
      refine mo_aldn (j := ii) 28 11 15 d_mo_close_28 (by show ii < 6; omega) ?_
      refine ev_iconst_3 29 d_mo_close_29 ?_
      refine ev_icmpne 30 37 d_mo_close_30 (fun c30 => ?_) (fun c30 => ?_)
      · refine ev_iconst_0 37 d_mo_close_37 ?_
        refine mo_calli1 38 d_mo_close_38 hZ kc_157 (mt_refuses hZ _) (fun x F1 B1 h => ?_)
        obtain ⟨hx, e1, e2⟩ := h
        subst F1
        subst B1
        refine ev_ifeq 41 46 d_mo_close_41 (fun c41 => ?_) (fun c41 => ?_)
        · refine ev_iconst_0 46 d_mo_close_46 ?_
          refine ev_istore_2 47 d_mo_close_47 ?_
          refine ev_iconst_1 48 d_mo_close_48 ?_
          refine ev_istore_3 49 d_mo_close_49 ?_
          exact L50 ii hii rfl c20 c30 17 0 (by omega) (by omega) _
        · exact absurd (mo_r0 hx) c41
      · refine ev_iconst_2 33 d_mo_close_33 ?_
        refine ev_goto 34 38 d_mo_close_34 ?_
        refine mo_calli1 38 d_mo_close_38 hZ kc_157 (mt_refuses hZ _) (fun x F1 B1 h => ?_)
        obtain ⟨hx, e1, e2⟩ := h
        subst F1
        subst B1
        refine ev_ifeq 41 46 d_mo_close_41 (fun c41 => ?_) (fun c41 => ?_)
        · exact absurd c41 (mo_rk hx (by decide))
        · refine ev_iconst_0 44 d_mo_close_44 ?_
          refine ev_iret 45 d_mo_close_45 rfl ?_
          exact ⟨_, _, _, rfl, rfl, Or.inr (Or.inl ⟨ii, hii, rfl, Or.inr c30, rfl, rfl, rfl⟩)⟩
  · refine ev_iconst_1 9 d_mo_close_9 ?_
    refine ev_goto 10 38 d_mo_close_10 ?_
    refine mo_calli1 38 d_mo_close_38 hZ kc_157 (mt_refuses hZ _) (fun x F1 B1 h => ?_)
    obtain ⟨hx, e1, e2⟩ := h
    subst F1
    subst B1
    refine ev_ifeq 41 46 d_mo_close_41 (fun c41 => ?_) (fun c41 => ?_)
    · exact absurd c41 (mo_rk hx (by decide))
    · refine ev_iconst_0 44 d_mo_close_44 ?_
      refine ev_iret 45 d_mo_close_45 rfl ?_
      exact ⟨_, _, _, rfl, rfl, Or.inl ⟨mo_b0 hy c6, rfl, rfl, rfl⟩⟩
end
section
theorem d_mo_write_0 : decode c_mo_write 0 = .ok (.aload_n 0, 1) := by decide +kernel
theorem d_mo_write_1 : decode c_mo_write 1 = .ok (.aload_n 0, 1) := by decide +kernel
theorem d_mo_write_2 : decode c_mo_write 2 = .ok (.iload_n 1, 1) := by decide +kernel
theorem d_mo_write_3 : decode c_mo_write 3 = .ok (.invokevirtual 197, 3) := by decide +kernel
theorem d_mo_write_6 : decode c_mo_write 6 = .ok (.ifCond .eq 14, 3) := by decide +kernel
theorem d_mo_write_9 : decode c_mo_write 9 = .ok (.iload_n 3, 1) := by decide +kernel
theorem d_mo_write_10 : decode c_mo_write 10 = .ok (.iconst 1, 1) := by decide +kernel
theorem d_mo_write_11 : decode c_mo_write 11 = .ok (.if_icmp .lt 9, 3) := by decide +kernel
theorem d_mo_write_14 : decode c_mo_write 14 = .ok (.iload_n 3, 1) := by decide +kernel
theorem d_mo_write_15 : decode c_mo_write 15 = .ok (.bipush 8, 2) := by decide +kernel
theorem d_mo_write_17 : decode c_mo_write 17 = .ok (.if_icmp .le 7, 3) := by decide +kernel
theorem d_mo_write_20 : decode c_mo_write 20 = .ok (.iconst 1, 1) := by decide +kernel
theorem d_mo_write_21 : decode c_mo_write 21 = .ok (.goto 19, 3) := by decide +kernel
theorem d_mo_write_24 : decode c_mo_write 24 = .ok (.iload_n 2, 1) := by decide +kernel
theorem d_mo_write_25 : decode c_mo_write 25 = .ok (.ifCond .lt 10, 3) := by decide +kernel
theorem d_mo_write_28 : decode c_mo_write 28 = .ok (.iload_n 2, 1) := by decide +kernel
theorem d_mo_write_29 : decode c_mo_write 29 = .ok (.sipush 255, 3) := by decide +kernel
theorem d_mo_write_32 : decode c_mo_write 32 = .ok (.if_icmp .le 7, 3) := by decide +kernel
theorem d_mo_write_35 : decode c_mo_write 35 = .ok (.iconst 2, 1) := by decide +kernel
theorem d_mo_write_36 : decode c_mo_write 36 = .ok (.goto 4, 3) := by decide +kernel
theorem d_mo_write_39 : decode c_mo_write 39 = .ok (.iconst 0, 1) := by decide +kernel
theorem d_mo_write_40 : decode c_mo_write 40 = .ok (.invokevirtual 157, 3) := by decide +kernel
theorem d_mo_write_43 : decode c_mo_write 43 = .ok (.ifCond .eq 4, 3) := by decide +kernel
theorem d_mo_write_46 : decode c_mo_write 46 = .ok (.return_, 1) := by decide +kernel
theorem d_mo_write_47 : decode c_mo_write 47 = .ok (.iconst 0, 1) := by decide +kernel
theorem d_mo_write_48 : decode c_mo_write 48 = .ok (.istore 6, 2) := by decide +kernel
theorem d_mo_write_50 : decode c_mo_write 50 = .ok (.iload 6, 2) := by decide +kernel
theorem d_mo_write_52 : decode c_mo_write 52 = .ok (.iload_n 3, 1) := by decide +kernel
theorem d_mo_write_53 : decode c_mo_write 53 = .ok (.if_icmp .ge 47, 3) := by decide +kernel
theorem d_mo_write_56 : decode c_mo_write 56 = .ok (.iload_n 2, 1) := by decide +kernel
theorem d_mo_write_57 : decode c_mo_write 57 = .ok (.iload 6, 2) := by decide +kernel
theorem d_mo_write_59 : decode c_mo_write 59 = .ok (.iadd, 1) := by decide +kernel
theorem d_mo_write_60 : decode c_mo_write 60 = .ok (.sipush 256, 3) := by decide +kernel
theorem d_mo_write_63 : decode c_mo_write 63 = .ok (.if_icmp .ge 37, 3) := by decide +kernel
theorem d_mo_write_66 : decode c_mo_write 66 = .ok (.aload_n 0, 1) := by decide +kernel
theorem d_mo_write_67 : decode c_mo_write 67 = .ok (.getfield 37, 3) := by decide +kernel
theorem d_mo_write_70 : decode c_mo_write 70 = .ok (.sipush 256, 3) := by decide +kernel
theorem d_mo_write_73 : decode c_mo_write 73 = .ok (.iload_n 1, 1) := by decide +kernel
theorem d_mo_write_74 : decode c_mo_write 74 = .ok (.imul, 1) := by decide +kernel
theorem d_mo_write_75 : decode c_mo_write 75 = .ok (.iload_n 2, 1) := by decide +kernel
theorem d_mo_write_76 : decode c_mo_write 76 = .ok (.iadd, 1) := by decide +kernel
theorem d_mo_write_77 : decode c_mo_write 77 = .ok (.iload 6, 2) := by decide +kernel
theorem d_mo_write_79 : decode c_mo_write 79 = .ok (.iadd, 1) := by decide +kernel
theorem d_mo_write_80 : decode c_mo_write 80 = .ok (.lload 4, 2) := by decide +kernel
theorem d_mo_write_82 : decode c_mo_write 82 = .ok (.bipush 8, 2) := by decide +kernel
theorem d_mo_write_84 : decode c_mo_write 84 = .ok (.iload 6, 2) := by decide +kernel
theorem d_mo_write_86 : decode c_mo_write 86 = .ok (.imul, 1) := by decide +kernel
theorem d_mo_write_87 : decode c_mo_write 87 = .ok (.lushr, 1) := by decide +kernel
theorem d_mo_write_88 : decode c_mo_write 88 = .ok (.ldc2_w 206, 3) := by decide +kernel
theorem d_mo_write_91 : decode c_mo_write 91 = .ok (.land, 1) := by decide +kernel
theorem d_mo_write_92 : decode c_mo_write 92 = .ok (.l2i, 1) := by decide +kernel
theorem d_mo_write_93 : decode c_mo_write 93 = .ok (.iastore, 1) := by decide +kernel
theorem d_mo_write_94 : decode c_mo_write 94 = .ok (.iinc 6 1, 3) := by decide +kernel
theorem d_mo_write_97 : decode c_mo_write 97 = .ok (.goto (-47), 3) := by decide +kernel
theorem d_mo_write_100 : decode c_mo_write 100 = .ok (.return_, 1) := by decide +kernel
theorem d_mo_put_0 : decode c_mo_put 0 = .ok (.iconst 0, 1) := by decide +kernel
theorem d_mo_put_1 : decode c_mo_put 1 = .ok (.istore 5, 2) := by decide +kernel
theorem d_mo_put_3 : decode c_mo_put 3 = .ok (.iload 5, 2) := by decide +kernel
theorem d_mo_put_5 : decode c_mo_put 5 = .ok (.iload_n 3, 1) := by decide +kernel
theorem d_mo_put_6 : decode c_mo_put 6 = .ok (.if_icmp .ge 36, 3) := by decide +kernel
theorem d_mo_put_9 : decode c_mo_put 9 = .ok (.aload_n 0, 1) := by decide +kernel
theorem d_mo_put_10 : decode c_mo_put 10 = .ok (.getfield 37, 3) := by decide +kernel
theorem d_mo_put_13 : decode c_mo_put 13 = .ok (.sipush 256, 3) := by decide +kernel
theorem d_mo_put_16 : decode c_mo_put 16 = .ok (.iload_n 1, 1) := by decide +kernel
theorem d_mo_put_17 : decode c_mo_put 17 = .ok (.imul, 1) := by decide +kernel
theorem d_mo_put_18 : decode c_mo_put 18 = .ok (.iload_n 2, 1) := by decide +kernel
theorem d_mo_put_19 : decode c_mo_put 19 = .ok (.iadd, 1) := by decide +kernel
theorem d_mo_put_20 : decode c_mo_put 20 = .ok (.iload 5, 2) := by decide +kernel
theorem d_mo_put_22 : decode c_mo_put 22 = .ok (.iadd, 1) := by decide +kernel
theorem d_mo_put_23 : decode c_mo_put 23 = .ok (.iload 4, 2) := by decide +kernel
theorem d_mo_put_25 : decode c_mo_put 25 = .ok (.bipush 8, 2) := by decide +kernel
theorem d_mo_put_27 : decode c_mo_put 27 = .ok (.iload 5, 2) := by decide +kernel
theorem d_mo_put_29 : decode c_mo_put 29 = .ok (.imul, 1) := by decide +kernel
theorem d_mo_put_30 : decode c_mo_put 30 = .ok (.ishr, 1) := by decide +kernel
theorem d_mo_put_31 : decode c_mo_put 31 = .ok (.sipush 255, 3) := by decide +kernel
theorem d_mo_put_34 : decode c_mo_put 34 = .ok (.iand, 1) := by decide +kernel
theorem d_mo_put_35 : decode c_mo_put 35 = .ok (.iastore, 1) := by decide +kernel
theorem d_mo_put_36 : decode c_mo_put 36 = .ok (.iinc 5 1, 3) := by decide +kernel
theorem d_mo_put_39 : decode c_mo_put 39 = .ok (.goto (-36), 3) := by decide +kernel
theorem d_mo_put_42 : decode c_mo_put 42 = .ok (.return_, 1) := by decide +kernel
theorem d_mo_room_0 : decode c_mo_room 0 = .ok (.aload_n 0, 1) := by decide +kernel
theorem d_mo_room_1 : decode c_mo_room 1 = .ok (.getfield 40, 3) := by decide +kernel
theorem d_mo_room_4 : decode c_mo_room 4 = .ok (.iload_n 1, 1) := by decide +kernel
theorem d_mo_room_5 : decode c_mo_room 5 = .ok (.iaload, 1) := by decide +kernel
theorem d_mo_room_6 : decode c_mo_room 6 = .ok (.iload_n 3, 1) := by decide +kernel
theorem d_mo_room_7 : decode c_mo_room 7 = .ok (.invokestatic 173, 3) := by decide +kernel
theorem d_mo_room_10 : decode c_mo_room 10 = .ok (.istore 4, 2) := by decide +kernel
theorem d_mo_room_12 : decode c_mo_room 12 = .ok (.iload 4, 2) := by decide +kernel
theorem d_mo_room_14 : decode c_mo_room 14 = .ok (.iload_n 2, 1) := by decide +kernel
theorem d_mo_room_15 : decode c_mo_room 15 = .ok (.iadd, 1) := by decide +kernel
theorem d_mo_room_16 : decode c_mo_room 16 = .ok (.sipush 256, 3) := by decide +kernel
theorem d_mo_room_19 : decode c_mo_room 19 = .ok (.if_icmp .le 13, 3) := by decide +kernel
theorem d_mo_room_22 : decode c_mo_room 22 = .ok (.aload_n 0, 1) := by decide +kernel
theorem d_mo_room_23 : decode c_mo_room 23 = .ok (.bipush 11, 2) := by decide +kernel
theorem d_mo_room_25 : decode c_mo_room 25 = .ok (.iload 4, 2) := by decide +kernel
theorem d_mo_room_27 : decode c_mo_room 27 = .ok (.invokevirtual 230, 3) := by decide +kernel
theorem d_mo_room_30 : decode c_mo_room 30 = .ok (.iconst 0, 1) := by decide +kernel
theorem d_mo_room_31 : decode c_mo_room 31 = .ok (.ireturn, 1) := by decide +kernel
theorem d_mo_room_32 : decode c_mo_room 32 = .ok (.iconst 0, 1) := by decide +kernel
theorem d_mo_room_33 : decode c_mo_room 33 = .ok (.istore 5, 2) := by decide +kernel
theorem d_mo_room_35 : decode c_mo_room 35 = .ok (.iload 5, 2) := by decide +kernel
theorem d_mo_room_37 : decode c_mo_room 37 = .ok (.iload_n 2, 1) := by decide +kernel
theorem d_mo_room_38 : decode c_mo_room 38 = .ok (.if_icmp .ge 26, 3) := by decide +kernel
theorem d_mo_room_41 : decode c_mo_room 41 = .ok (.aload_n 0, 1) := by decide +kernel
theorem d_mo_room_42 : decode c_mo_room 42 = .ok (.getfield 37, 3) := by decide +kernel
theorem d_mo_room_45 : decode c_mo_room 45 = .ok (.sipush 256, 3) := by decide +kernel
theorem d_mo_room_48 : decode c_mo_room 48 = .ok (.iload_n 1, 1) := by decide +kernel
theorem d_mo_room_49 : decode c_mo_room 49 = .ok (.imul, 1) := by decide +kernel
theorem d_mo_room_50 : decode c_mo_room 50 = .ok (.iload 4, 2) := by decide +kernel
theorem d_mo_room_52 : decode c_mo_room 52 = .ok (.iadd, 1) := by decide +kernel
theorem d_mo_room_53 : decode c_mo_room 53 = .ok (.iload 5, 2) := by decide +kernel
theorem d_mo_room_55 : decode c_mo_room 55 = .ok (.iadd, 1) := by decide +kernel
theorem d_mo_room_56 : decode c_mo_room 56 = .ok (.iconst 0, 1) := by decide +kernel
theorem d_mo_room_57 : decode c_mo_room 57 = .ok (.iastore, 1) := by decide +kernel
theorem d_mo_room_58 : decode c_mo_room 58 = .ok (.iinc 5 1, 3) := by decide +kernel
theorem d_mo_room_61 : decode c_mo_room 61 = .ok (.goto (-26), 3) := by decide +kernel
theorem d_mo_room_64 : decode c_mo_room 64 = .ok (.aload_n 0, 1) := by decide +kernel
theorem d_mo_room_65 : decode c_mo_room 65 = .ok (.getfield 40, 3) := by decide +kernel
theorem d_mo_room_68 : decode c_mo_room 68 = .ok (.iload_n 1, 1) := by decide +kernel
theorem d_mo_room_69 : decode c_mo_room 69 = .ok (.iload 4, 2) := by decide +kernel
theorem d_mo_room_71 : decode c_mo_room 71 = .ok (.iload_n 2, 1) := by decide +kernel
theorem d_mo_room_72 : decode c_mo_room 72 = .ok (.iadd, 1) := by decide +kernel
theorem d_mo_room_73 : decode c_mo_room 73 = .ok (.iastore, 1) := by decide +kernel
theorem d_mo_room_74 : decode c_mo_room 74 = .ok (.iload 4, 2) := by decide +kernel
theorem d_mo_room_76 : decode c_mo_room 76 = .ok (.ireturn, 1) := by decide +kernel
theorem d_mo_number_0 : decode c_mo_number 0 = .ok (.iconst 0, 1) := by decide +kernel
theorem d_mo_number_1 : decode c_mo_number 1 = .ok (.istore 4, 2) := by decide +kernel
theorem d_mo_number_3 : decode c_mo_number 3 = .ok (.iconst 0, 1) := by decide +kernel
theorem d_mo_number_4 : decode c_mo_number 4 = .ok (.istore 5, 2) := by decide +kernel
theorem d_mo_number_6 : decode c_mo_number 6 = .ok (.iload 5, 2) := by decide +kernel
theorem d_mo_number_8 : decode c_mo_number 8 = .ok (.iload_n 3, 1) := by decide +kernel
theorem d_mo_number_9 : decode c_mo_number 9 = .ok (.if_icmp .ge 36, 3) := by decide +kernel
theorem d_mo_number_12 : decode c_mo_number 12 = .ok (.aload_n 0, 1) := by decide +kernel
theorem d_mo_number_13 : decode c_mo_number 13 = .ok (.getfield 224, 3) := by decide +kernel
theorem d_mo_number_16 : decode c_mo_number 16 = .ok (.ifCond .ne 29, 3) := by decide +kernel
theorem d_mo_number_19 : decode c_mo_number 19 = .ok (.iload 4, 2) := by decide +kernel
theorem d_mo_number_21 : decode c_mo_number 21 = .ok (.aload_n 0, 1) := by decide +kernel
theorem d_mo_number_22 : decode c_mo_number 22 = .ok (.iload_n 1, 1) := by decide +kernel
theorem d_mo_number_23 : decode c_mo_number 23 = .ok (.iload_n 2, 1) := by decide +kernel
theorem d_mo_number_24 : decode c_mo_number 24 = .ok (.iload 5, 2) := by decide +kernel
theorem d_mo_number_26 : decode c_mo_number 26 = .ok (.iadd, 1) := by decide +kernel
theorem d_mo_number_27 : decode c_mo_number 27 = .ok (.invokevirtual 234, 3) := by decide +kernel
theorem d_mo_number_30 : decode c_mo_number 30 = .ok (.bipush 8, 2) := by decide +kernel
theorem d_mo_number_32 : decode c_mo_number 32 = .ok (.iload 5, 2) := by decide +kernel
theorem d_mo_number_34 : decode c_mo_number 34 = .ok (.imul, 1) := by decide +kernel
theorem d_mo_number_35 : decode c_mo_number 35 = .ok (.ishl, 1) := by decide +kernel
theorem d_mo_number_36 : decode c_mo_number 36 = .ok (.ior, 1) := by decide +kernel
theorem d_mo_number_37 : decode c_mo_number 37 = .ok (.istore 4, 2) := by decide +kernel
theorem d_mo_number_39 : decode c_mo_number 39 = .ok (.iinc 5 1, 3) := by decide +kernel
theorem d_mo_number_42 : decode c_mo_number 42 = .ok (.goto (-36), 3) := by decide +kernel
theorem d_mo_number_45 : decode c_mo_number 45 = .ok (.iload 4, 2) := by decide +kernel
theorem d_mo_number_47 : decode c_mo_number 47 = .ok (.ireturn, 1) := by decide +kernel
theorem d_mo_readPlain_0 : decode c_mo_readPlain 0 = .ok (.aload_n 0, 1) := by decide +kernel
theorem d_mo_readPlain_1 : decode c_mo_readPlain 1 = .ok (.getfield 7, 3) := by decide +kernel
theorem d_mo_readPlain_4 : decode c_mo_readPlain 4 = .ok (.iload_n 2, 1) := by decide +kernel
theorem d_mo_readPlain_5 : decode c_mo_readPlain 5 = .ok (.iaload, 1) := by decide +kernel
theorem d_mo_readPlain_6 : decode c_mo_readPlain 6 = .ok (.istore 4, 2) := by decide +kernel
theorem d_mo_readPlain_8 : decode c_mo_readPlain 8 = .ok (.aload_n 0, 1) := by decide +kernel
theorem d_mo_readPlain_9 : decode c_mo_readPlain 9 = .ok (.iload_n 1, 1) := by decide +kernel
theorem d_mo_readPlain_10 : decode c_mo_readPlain 10 = .ok (.iload_n 3, 1) := by decide +kernel
theorem d_mo_readPlain_11 : decode c_mo_readPlain 11 = .ok (.invokevirtual 234, 3) := by decide +kernel
theorem d_mo_readPlain_14 : decode c_mo_readPlain 14 = .ok (.istore 5, 2) := by decide +kernel
theorem d_mo_readPlain_16 : decode c_mo_readPlain 16 = .ok (.iconst 1, 1) := by decide +kernel
theorem d_mo_readPlain_17 : decode c_mo_readPlain 17 = .ok (.istore 6, 2) := by decide +kernel
theorem d_mo_readPlain_19 : decode c_mo_readPlain 19 = .ok (.iload 6, 2) := by decide +kernel
theorem d_mo_readPlain_21 : decode c_mo_readPlain 21 = .ok (.aload_n 0, 1) := by decide +kernel
theorem d_mo_readPlain_22 : decode c_mo_readPlain 22 = .ok (.getfield 16, 3) := by decide +kernel
theorem d_mo_readPlain_25 : decode c_mo_readPlain 25 = .ok (.iload_n 2, 1) := by decide +kernel
theorem d_mo_readPlain_26 : decode c_mo_readPlain 26 = .ok (.iaload, 1) := by decide +kernel
theorem d_mo_readPlain_27 : decode c_mo_readPlain 27 = .ok (.if_icmp .ge 19, 3) := by decide +kernel
theorem d_mo_readPlain_30 : decode c_mo_readPlain 30 = .ok (.aload_n 0, 1) := by decide +kernel
theorem d_mo_readPlain_31 : decode c_mo_readPlain 31 = .ok (.iload_n 1, 1) := by decide +kernel
theorem d_mo_readPlain_32 : decode c_mo_readPlain 32 = .ok (.iload_n 3, 1) := by decide +kernel
theorem d_mo_readPlain_33 : decode c_mo_readPlain 33 = .ok (.iload 6, 2) := by decide +kernel
theorem d_mo_readPlain_35 : decode c_mo_readPlain 35 = .ok (.iadd, 1) := by decide +kernel
theorem d_mo_readPlain_36 : decode c_mo_readPlain 36 = .ok (.invokevirtual 234, 3) := by decide +kernel
theorem d_mo_readPlain_39 : decode c_mo_readPlain 39 = .ok (.pop, 1) := by decide +kernel
theorem d_mo_readPlain_40 : decode c_mo_readPlain 40 = .ok (.iinc 6 1, 3) := by decide +kernel
theorem d_mo_readPlain_43 : decode c_mo_readPlain 43 = .ok (.goto (-24), 3) := by decide +kernel
theorem d_mo_readPlain_46 : decode c_mo_readPlain 46 = .ok (.aload_n 0, 1) := by decide +kernel
theorem d_mo_readPlain_47 : decode c_mo_readPlain 47 = .ok (.getfield 224, 3) := by decide +kernel
theorem d_mo_readPlain_50 : decode c_mo_readPlain 50 = .ok (.ifCond .le 4, 3) := by decide +kernel
theorem d_mo_readPlain_53 : decode c_mo_readPlain 53 = .ok (.return_, 1) := by decide +kernel
theorem d_mo_readPlain_54 : decode c_mo_readPlain 54 = .ok (.iload 4, 2) := by decide +kernel
theorem d_mo_readPlain_56 : decode c_mo_readPlain 56 = .ok (.ifCond .ne 9, 3) := by decide +kernel
theorem d_mo_readPlain_59 : decode c_mo_readPlain 59 = .ok (.iload 5, 2) := by decide +kernel
theorem d_mo_readPlain_61 : decode c_mo_readPlain 61 = .ok (.iconst 1, 1) := by decide +kernel
theorem d_mo_readPlain_62 : decode c_mo_readPlain 62 = .ok (.if_icmp .gt 21, 3) := by decide +kernel
theorem d_mo_readPlain_65 : decode c_mo_readPlain 65 = .ok (.iload 4, 2) := by decide +kernel
theorem d_mo_readPlain_67 : decode c_mo_readPlain 67 = .ok (.bipush 7, 2) := by decide +kernel
theorem d_mo_readPlain_69 : decode c_mo_readPlain 69 = .ok (.if_icmp .ne 20, 3) := by decide +kernel
theorem d_mo_readPlain_72 : decode c_mo_readPlain 72 = .ok (.iload 5, 2) := by decide +kernel
theorem d_mo_readPlain_74 : decode c_mo_readPlain 74 = .ok (.aload_n 0, 1) := by decide +kernel
theorem d_mo_readPlain_75 : decode c_mo_readPlain 75 = .ok (.getfield 13, 3) := by decide +kernel
theorem d_mo_readPlain_78 : decode c_mo_readPlain 78 = .ok (.iload_n 2, 1) := by decide +kernel
theorem d_mo_readPlain_79 : decode c_mo_readPlain 79 = .ok (.iaload, 1) := by decide +kernel
theorem d_mo_readPlain_80 : decode c_mo_readPlain 80 = .ok (.if_icmp .lt 9, 3) := by decide +kernel
theorem d_mo_readPlain_83 : decode c_mo_readPlain 83 = .ok (.aload_n 0, 1) := by decide +kernel
theorem d_mo_readPlain_84 : decode c_mo_readPlain 84 = .ok (.iconst 2, 1) := by decide +kernel
theorem d_mo_readPlain_85 : decode c_mo_readPlain 85 = .ok (.iload_n 3, 1) := by decide +kernel
theorem d_mo_readPlain_86 : decode c_mo_readPlain 86 = .ok (.invokevirtual 230, 3) := by decide +kernel
theorem d_mo_readPlain_89 : decode c_mo_readPlain 89 = .ok (.iload 4, 2) := by decide +kernel
theorem d_mo_readPlain_91 : decode c_mo_readPlain 91 = .ok (.iconst 5, 1) := by decide +kernel
theorem d_mo_readPlain_92 : decode c_mo_readPlain 92 = .ok (.if_icmp .ne 45, 3) := by decide +kernel
theorem d_mo_readPlain_95 : decode c_mo_readPlain 95 = .ok (.aload_n 0, 1) := by decide +kernel
theorem d_mo_readPlain_96 : decode c_mo_readPlain 96 = .ok (.iload_n 1, 1) := by decide +kernel
theorem d_mo_readPlain_97 : decode c_mo_readPlain 97 = .ok (.iload_n 3, 1) := by decide +kernel
theorem d_mo_readPlain_98 : decode c_mo_readPlain 98 = .ok (.iconst 4, 1) := by decide +kernel
theorem d_mo_readPlain_99 : decode c_mo_readPlain 99 = .ok (.invokevirtual 240, 3) := by decide +kernel
theorem d_mo_readPlain_102 : decode c_mo_readPlain 102 = .ok (.istore 6, 2) := by decide +kernel
theorem d_mo_readPlain_104 : decode c_mo_readPlain 104 = .ok (.iload 6, 2) := by decide +kernel
theorem d_mo_readPlain_106 : decode c_mo_readPlain 106 = .ok (.ifCond .lt 25, 3) := by decide +kernel
theorem d_mo_readPlain_109 : decode c_mo_readPlain 109 = .ok (.iload 6, 2) := by decide +kernel
theorem d_mo_readPlain_111 : decode c_mo_readPlain 111 = .ok (.ldc 254, 2) := by decide +kernel
theorem d_mo_readPlain_113 : decode c_mo_readPlain 113 = .ok (.if_icmp .gt 18, 3) := by decide +kernel
theorem d_mo_readPlain_116 : decode c_mo_readPlain 116 = .ok (.iload 6, 2) := by decide +kernel
theorem d_mo_readPlain_118 : decode c_mo_readPlain 118 = .ok (.ldc 255, 2) := by decide +kernel
theorem d_mo_readPlain_120 : decode c_mo_readPlain 120 = .ok (.if_icmp .le 17, 3) := by decide +kernel
theorem d_mo_readPlain_123 : decode c_mo_readPlain 123 = .ok (.iload 6, 2) := by decide +kernel
theorem d_mo_readPlain_125 : decode c_mo_readPlain 125 = .ok (.ldc_w 256, 3) := by decide +kernel
theorem d_mo_readPlain_128 : decode c_mo_readPlain 128 = .ok (.if_icmp .ge 9, 3) := by decide +kernel
theorem d_mo_readPlain_131 : decode c_mo_readPlain 131 = .ok (.aload_n 0, 1) := by decide +kernel
theorem d_mo_readPlain_132 : decode c_mo_readPlain 132 = .ok (.iconst 3, 1) := by decide +kernel
theorem d_mo_readPlain_133 : decode c_mo_readPlain 133 = .ok (.iload_n 3, 1) := by decide +kernel
theorem d_mo_readPlain_134 : decode c_mo_readPlain 134 = .ok (.invokevirtual 230, 3) := by decide +kernel
theorem d_mo_readPlain_137 : decode c_mo_readPlain 137 = .ok (.return_, 1) := by decide +kernel
theorem d_mo_readHandle_0 : decode c_mo_readHandle 0 = .ok (.aload_n 0, 1) := by decide +kernel
theorem d_mo_readHandle_1 : decode c_mo_readHandle 1 = .ok (.iload_n 1, 1) := by decide +kernel
theorem d_mo_readHandle_2 : decode c_mo_readHandle 2 = .ok (.iload_n 3, 1) := by decide +kernel
theorem d_mo_readHandle_3 : decode c_mo_readHandle 3 = .ok (.invokevirtual 234, 3) := by decide +kernel
theorem d_mo_readHandle_6 : decode c_mo_readHandle 6 = .ok (.istore 5, 2) := by decide +kernel
theorem d_mo_readHandle_8 : decode c_mo_readHandle 8 = .ok (.aload_n 0, 1) := by decide +kernel
theorem d_mo_readHandle_9 : decode c_mo_readHandle 9 = .ok (.getfield 224, 3) := by decide +kernel
theorem d_mo_readHandle_12 : decode c_mo_readHandle 12 = .ok (.ifCond .le 4, 3) := by decide +kernel
theorem d_mo_readHandle_15 : decode c_mo_readHandle 15 = .ok (.return_, 1) := by decide +kernel
theorem d_mo_readHandle_16 : decode c_mo_readHandle 16 = .ok (.iload 5, 2) := by decide +kernel
theorem d_mo_readHandle_18 : decode c_mo_readHandle 18 = .ok (.iconst 1, 1) := by decide +kernel
theorem d_mo_readHandle_19 : decode c_mo_readHandle 19 = .ok (.if_icmp .lt 44, 3) := by decide +kernel
theorem d_mo_readHandle_22 : decode c_mo_readHandle 22 = .ok (.iload 5, 2) := by decide +kernel
theorem d_mo_readHandle_24 : decode c_mo_readHandle 24 = .ok (.bipush 16, 2) := by decide +kernel
theorem d_mo_readHandle_26 : decode c_mo_readHandle 26 = .ok (.if_icmp .gt 37, 3) := by decide +kernel
theorem d_mo_readHandle_29 : decode c_mo_readHandle 29 = .ok (.aload_n 0, 1) := by decide +kernel
theorem d_mo_readHandle_30 : decode c_mo_readHandle 30 = .ok (.getfield 46, 3) := by decide +kernel
theorem d_mo_readHandle_33 : decode c_mo_readHandle 33 = .ok (.bipush 17, 2) := by decide +kernel
theorem d_mo_readHandle_35 : decode c_mo_readHandle 35 = .ok (.iload_n 1, 1) := by decide +kernel
theorem d_mo_readHandle_36 : decode c_mo_readHandle 36 = .ok (.imul, 1) := by decide +kernel
theorem d_mo_readHandle_37 : decode c_mo_readHandle 37 = .ok (.iload 5, 2) := by decide +kernel
theorem d_mo_readHandle_39 : decode c_mo_readHandle 39 = .ok (.iadd, 1) := by decide +kernel
theorem d_mo_readHandle_40 : decode c_mo_readHandle 40 = .ok (.baload, 1) := by decide +kernel
theorem d_mo_readHandle_41 : decode c_mo_readHandle 41 = .ok (.ifCond .eq 22, 3) := by decide +kernel
theorem d_mo_readHandle_44 : decode c_mo_readHandle 44 = .ok (.aload_n 0, 1) := by decide +kernel
theorem d_mo_readHandle_45 : decode c_mo_readHandle 45 = .ok (.getfield 59, 3) := by decide +kernel
theorem d_mo_readHandle_48 : decode c_mo_readHandle 48 = .ok (.bipush 17, 2) := by decide +kernel
theorem d_mo_readHandle_50 : decode c_mo_readHandle 50 = .ok (.iload_n 1, 1) := by decide +kernel
theorem d_mo_readHandle_51 : decode c_mo_readHandle 51 = .ok (.imul, 1) := by decide +kernel
theorem d_mo_readHandle_52 : decode c_mo_readHandle 52 = .ok (.iload 5, 2) := by decide +kernel
theorem d_mo_readHandle_54 : decode c_mo_readHandle 54 = .ok (.iadd, 1) := by decide +kernel
theorem d_mo_readHandle_55 : decode c_mo_readHandle 55 = .ok (.baload, 1) := by decide +kernel
theorem d_mo_readHandle_56 : decode c_mo_readHandle 56 = .ok (.ifCond .ne 7, 3) := by decide +kernel
theorem d_mo_readHandle_59 : decode c_mo_readHandle 59 = .ok (.iconst 1, 1) := by decide +kernel
theorem d_mo_readHandle_60 : decode c_mo_readHandle 60 = .ok (.goto 4, 3) := by decide +kernel
theorem d_mo_readHandle_63 : decode c_mo_readHandle 63 = .ok (.iconst 0, 1) := by decide +kernel
theorem d_mo_readHandle_64 : decode c_mo_readHandle 64 = .ok (.istore 6, 2) := by decide +kernel
theorem d_mo_readHandle_66 : decode c_mo_readHandle 66 = .ok (.iload 6, 2) := by decide +kernel
theorem d_mo_readHandle_68 : decode c_mo_readHandle 68 = .ok (.ifCond .ne 11, 3) := by decide +kernel
theorem d_mo_readHandle_71 : decode c_mo_readHandle 71 = .ok (.aload_n 0, 1) := by decide +kernel
theorem d_mo_readHandle_72 : decode c_mo_readHandle 72 = .ok (.bipush 6, 2) := by decide +kernel
theorem d_mo_readHandle_74 : decode c_mo_readHandle 74 = .ok (.iload_n 3, 1) := by decide +kernel
theorem d_mo_readHandle_75 : decode c_mo_readHandle 75 = .ok (.invokevirtual 230, 3) := by decide +kernel
theorem d_mo_readHandle_78 : decode c_mo_readHandle 78 = .ok (.return_, 1) := by decide +kernel
theorem d_mo_readHandle_79 : decode c_mo_readHandle 79 = .ok (.bipush 17, 2) := by decide +kernel
theorem d_mo_readHandle_81 : decode c_mo_readHandle 81 = .ok (.iload_n 1, 1) := by decide +kernel
theorem d_mo_readHandle_82 : decode c_mo_readHandle 82 = .ok (.imul, 1) := by decide +kernel
theorem d_mo_readHandle_83 : decode c_mo_readHandle 83 = .ok (.iload 5, 2) := by decide +kernel
theorem d_mo_readHandle_85 : decode c_mo_readHandle 85 = .ok (.iadd, 1) := by decide +kernel
theorem d_mo_readHandle_86 : decode c_mo_readHandle 86 = .ok (.istore 7, 2) := by decide +kernel
theorem d_mo_readHandle_88 : decode c_mo_readHandle 88 = .ok (.aload_n 0, 1) := by decide +kernel
theorem d_mo_readHandle_89 : decode c_mo_readHandle 89 = .ok (.getfield 123, 3) := by decide +kernel
theorem d_mo_readHandle_92 : decode c_mo_readHandle 92 = .ok (.iload 4, 2) := by decide +kernel
theorem d_mo_readHandle_94 : decode c_mo_readHandle 94 = .ok (.iload 7, 2) := by decide +kernel
theorem d_mo_readHandle_96 : decode c_mo_readHandle 96 = .ok (.iastore, 1) := by decide +kernel
theorem d_mo_readHandle_97 : decode c_mo_readHandle 97 = .ok (.aload_n 0, 1) := by decide +kernel
theorem d_mo_readHandle_98 : decode c_mo_readHandle 98 = .ok (.getfield 65, 3) := by decide +kernel
theorem d_mo_readHandle_101 : decode c_mo_readHandle 101 = .ok (.aload_n 0, 1) := by decide +kernel
theorem d_mo_readHandle_102 : decode c_mo_readHandle 102 = .ok (.getfield 50, 3) := by decide +kernel
theorem d_mo_readHandle_105 : decode c_mo_readHandle 105 = .ok (.iload 7, 2) := by decide +kernel
theorem d_mo_readHandle_107 : decode c_mo_readHandle 107 = .ok (.iaload, 1) := by decide +kernel
theorem d_mo_readHandle_108 : decode c_mo_readHandle 108 = .ok (.iaload, 1) := by decide +kernel
theorem d_mo_readHandle_109 : decode c_mo_readHandle 109 = .ok (.aload_n 0, 1) := by decide +kernel
theorem d_mo_readHandle_110 : decode c_mo_readHandle 110 = .ok (.getfield 13, 3) := by decide +kernel
theorem d_mo_readHandle_113 : decode c_mo_readHandle 113 = .ok (.iload_n 2, 1) := by decide +kernel
theorem d_mo_readHandle_114 : decode c_mo_readHandle 114 = .ok (.iaload, 1) := by decide +kernel
theorem d_mo_readHandle_115 : decode c_mo_readHandle 115 = .ok (.if_icmp .eq 13, 3) := by decide +kernel
theorem d_mo_readHandle_118 : decode c_mo_readHandle 118 = .ok (.aload_n 0, 1) := by decide +kernel
theorem d_mo_readHandle_119 : decode c_mo_readHandle 119 = .ok (.bipush 7, 2) := by decide +kernel
theorem d_mo_readHandle_121 : decode c_mo_readHandle 121 = .ok (.iload_n 3, 1) := by decide +kernel
theorem d_mo_readHandle_122 : decode c_mo_readHandle 122 = .ok (.invokevirtual 230, 3) := by decide +kernel
theorem d_mo_readHandle_125 : decode c_mo_readHandle 125 = .ok (.goto 75, 3) := by decide +kernel
theorem d_mo_readHandle_128 : decode c_mo_readHandle 128 = .ok (.aload_n 0, 1) := by decide +kernel
theorem d_mo_readHandle_129 : decode c_mo_readHandle 129 = .ok (.getfield 7, 3) := by decide +kernel
theorem d_mo_readHandle_132 : decode c_mo_readHandle 132 = .ok (.iload_n 2, 1) := by decide +kernel
theorem d_mo_readHandle_133 : decode c_mo_readHandle 133 = .ok (.iaload, 1) := by decide +kernel
theorem d_mo_readHandle_134 : decode c_mo_readHandle 134 = .ok (.bipush 12, 2) := by decide +kernel
theorem d_mo_readHandle_136 : decode c_mo_readHandle 136 = .ok (.if_icmp .ne 17, 3) := by decide +kernel
theorem d_mo_readHandle_139 : decode c_mo_readHandle 139 = .ok (.aload_n 0, 1) := by decide +kernel
theorem d_mo_readHandle_140 : decode c_mo_readHandle 140 = .ok (.getfield 62, 3) := by decide +kernel
theorem d_mo_readHandle_143 : decode c_mo_readHandle 143 = .ok (.iload 7, 2) := by decide +kernel
theorem d_mo_readHandle_145 : decode c_mo_readHandle 145 = .ok (.dup2, 1) := by decide +kernel
theorem d_mo_readHandle_146 : decode c_mo_readHandle 146 = .ok (.iaload, 1) := by decide +kernel
theorem d_mo_readHandle_147 : decode c_mo_readHandle 147 = .ok (.iconst 1, 1) := by decide +kernel
theorem d_mo_readHandle_148 : decode c_mo_readHandle 148 = .ok (.iadd, 1) := by decide +kernel
theorem d_mo_readHandle_149 : decode c_mo_readHandle 149 = .ok (.iastore, 1) := by decide +kernel
theorem d_mo_readHandle_150 : decode c_mo_readHandle 150 = .ok (.goto 50, 3) := by decide +kernel
theorem d_mo_readHandle_153 : decode c_mo_readHandle 153 = .ok (.aload_n 0, 1) := by decide +kernel
theorem d_mo_readHandle_154 : decode c_mo_readHandle 154 = .ok (.getfield 53, 3) := by decide +kernel
theorem d_mo_readHandle_157 : decode c_mo_readHandle 157 = .ok (.iload 7, 2) := by decide +kernel
theorem d_mo_readHandle_159 : decode c_mo_readHandle 159 = .ok (.baload, 1) := by decide +kernel
theorem d_mo_readHandle_160 : decode c_mo_readHandle 160 = .ok (.ifCond .ne 13, 3) := by decide +kernel
theorem d_mo_readHandle_163 : decode c_mo_readHandle 163 = .ok (.aload_n 0, 1) := by decide +kernel
theorem d_mo_readHandle_164 : decode c_mo_readHandle 164 = .ok (.bipush 8, 2) := by decide +kernel
theorem d_mo_readHandle_166 : decode c_mo_readHandle 166 = .ok (.iload_n 3, 1) := by decide +kernel
theorem d_mo_readHandle_167 : decode c_mo_readHandle 167 = .ok (.invokevirtual 230, 3) := by decide +kernel
theorem d_mo_readHandle_170 : decode c_mo_readHandle 170 = .ok (.goto 30, 3) := by decide +kernel
theorem d_mo_readHandle_173 : decode c_mo_readHandle 173 = .ok (.aload_n 0, 1) := by decide +kernel
theorem d_mo_readHandle_174 : decode c_mo_readHandle 174 = .ok (.iload 7, 2) := by decide +kernel
theorem d_mo_readHandle_176 : decode c_mo_readHandle 176 = .ok (.invokevirtual 221, 3) := by decide +kernel
theorem d_mo_readHandle_179 : decode c_mo_readHandle 179 = .ok (.ifCond .le 13, 3) := by decide +kernel
theorem d_mo_readHandle_182 : decode c_mo_readHandle 182 = .ok (.aload_n 0, 1) := by decide +kernel
theorem d_mo_readHandle_183 : decode c_mo_readHandle 183 = .ok (.bipush 9, 2) := by decide +kernel
theorem d_mo_readHandle_185 : decode c_mo_readHandle 185 = .ok (.iload_n 3, 1) := by decide +kernel
theorem d_mo_readHandle_186 : decode c_mo_readHandle 186 = .ok (.invokevirtual 230, 3) := by decide +kernel
theorem d_mo_readHandle_189 : decode c_mo_readHandle 189 = .ok (.goto 11, 3) := by decide +kernel
theorem d_mo_readHandle_192 : decode c_mo_readHandle 192 = .ok (.aload_n 0, 1) := by decide +kernel
theorem d_mo_readHandle_193 : decode c_mo_readHandle 193 = .ok (.getfield 59, 3) := by decide +kernel
theorem d_mo_readHandle_196 : decode c_mo_readHandle 196 = .ok (.iload 7, 2) := by decide +kernel
theorem d_mo_readHandle_198 : decode c_mo_readHandle 198 = .ok (.iconst 1, 1) := by decide +kernel
theorem d_mo_readHandle_199 : decode c_mo_readHandle 199 = .ok (.bastore, 1) := by decide +kernel
theorem d_mo_readHandle_200 : decode c_mo_readHandle 200 = .ok (.return_, 1) := by decide +kernel
theorem d_mo_writeHandle_0 : decode c_mo_writeHandle 0 = .ok (.aload_n 0, 1) := by decide +kernel
theorem d_mo_writeHandle_1 : decode c_mo_writeHandle 1 = .ok (.iload_n 1, 1) := by decide +kernel
theorem d_mo_writeHandle_2 : decode c_mo_writeHandle 2 = .ok (.invokevirtual 215, 3) := by decide +kernel
theorem d_mo_writeHandle_5 : decode c_mo_writeHandle 5 = .ok (.istore_n 3, 1) := by decide +kernel
theorem d_mo_writeHandle_6 : decode c_mo_writeHandle 6 = .ok (.iload_n 3, 1) := by decide +kernel
theorem d_mo_writeHandle_7 : decode c_mo_writeHandle 7 = .ok (.ifCond .ne 16, 3) := by decide +kernel
theorem d_mo_writeHandle_10 : decode c_mo_writeHandle 10 = .ok (.aload_n 0, 1) := by decide +kernel
theorem d_mo_writeHandle_11 : decode c_mo_writeHandle 11 = .ok (.bipush 12, 2) := by decide +kernel
theorem d_mo_writeHandle_13 : decode c_mo_writeHandle 13 = .ok (.aload_n 0, 1) := by decide +kernel
theorem d_mo_writeHandle_14 : decode c_mo_writeHandle 14 = .ok (.getfield 114, 3) := by decide +kernel
theorem d_mo_writeHandle_17 : decode c_mo_writeHandle 17 = .ok (.iload_n 2, 1) := by decide +kernel
theorem d_mo_writeHandle_18 : decode c_mo_writeHandle 18 = .ok (.iaload, 1) := by decide +kernel
theorem d_mo_writeHandle_19 : decode c_mo_writeHandle 19 = .ok (.invokevirtual 230, 3) := by decide +kernel
theorem d_mo_writeHandle_22 : decode c_mo_writeHandle 22 = .ok (.return_, 1) := by decide +kernel
theorem d_mo_writeHandle_23 : decode c_mo_writeHandle 23 = .ok (.bipush 17, 2) := by decide +kernel
theorem d_mo_writeHandle_25 : decode c_mo_writeHandle 25 = .ok (.iload_n 1, 1) := by decide +kernel
theorem d_mo_writeHandle_26 : decode c_mo_writeHandle 26 = .ok (.imul, 1) := by decide +kernel
theorem d_mo_writeHandle_27 : decode c_mo_writeHandle 27 = .ok (.iload_n 3, 1) := by decide +kernel
theorem d_mo_writeHandle_28 : decode c_mo_writeHandle 28 = .ok (.iadd, 1) := by decide +kernel
theorem d_mo_writeHandle_29 : decode c_mo_writeHandle 29 = .ok (.istore 4, 2) := by decide +kernel
theorem d_mo_writeHandle_31 : decode c_mo_writeHandle 31 = .ok (.aload_n 0, 1) := by decide +kernel
theorem d_mo_writeHandle_32 : decode c_mo_writeHandle 32 = .ok (.getfield 46, 3) := by decide +kernel
theorem d_mo_writeHandle_35 : decode c_mo_writeHandle 35 = .ok (.iload 4, 2) := by decide +kernel
theorem d_mo_writeHandle_37 : decode c_mo_writeHandle 37 = .ok (.iconst 1, 1) := by decide +kernel
theorem d_mo_writeHandle_38 : decode c_mo_writeHandle 38 = .ok (.bastore, 1) := by decide +kernel
theorem d_mo_writeHandle_39 : decode c_mo_writeHandle 39 = .ok (.aload_n 0, 1) := by decide +kernel
theorem d_mo_writeHandle_40 : decode c_mo_writeHandle 40 = .ok (.getfield 53, 3) := by decide +kernel
theorem d_mo_writeHandle_43 : decode c_mo_writeHandle 43 = .ok (.iload 4, 2) := by decide +kernel
theorem d_mo_writeHandle_45 : decode c_mo_writeHandle 45 = .ok (.aload_n 0, 1) := by decide +kernel
theorem d_mo_writeHandle_46 : decode c_mo_writeHandle 46 = .ok (.getfield 7, 3) := by decide +kernel
theorem d_mo_writeHandle_49 : decode c_mo_writeHandle 49 = .ok (.aload_n 0, 1) := by decide +kernel
theorem d_mo_writeHandle_50 : decode c_mo_writeHandle 50 = .ok (.getfield 111, 3) := by decide +kernel
theorem d_mo_writeHandle_53 : decode c_mo_writeHandle 53 = .ok (.iload_n 2, 1) := by decide +kernel
theorem d_mo_writeHandle_54 : decode c_mo_writeHandle 54 = .ok (.iaload, 1) := by decide +kernel
theorem d_mo_writeHandle_55 : decode c_mo_writeHandle 55 = .ok (.iaload, 1) := by decide +kernel
theorem d_mo_writeHandle_56 : decode c_mo_writeHandle 56 = .ok (.bipush 11, 2) := by decide +kernel
theorem d_mo_writeHandle_58 : decode c_mo_writeHandle 58 = .ok (.if_icmp .ne 7, 3) := by decide +kernel
theorem d_mo_writeHandle_61 : decode c_mo_writeHandle 61 = .ok (.iconst 1, 1) := by decide +kernel
theorem d_mo_writeHandle_62 : decode c_mo_writeHandle 62 = .ok (.goto 4, 3) := by decide +kernel
theorem d_mo_writeHandle_65 : decode c_mo_writeHandle 65 = .ok (.iconst 0, 1) := by decide +kernel
theorem d_mo_writeHandle_66 : decode c_mo_writeHandle 66 = .ok (.bastore, 1) := by decide +kernel
theorem d_mo_writeHandle_67 : decode c_mo_writeHandle 67 = .ok (.aload_n 0, 1) := by decide +kernel
theorem d_mo_writeHandle_68 : decode c_mo_writeHandle 68 = .ok (.getfield 50, 3) := by decide +kernel
theorem d_mo_writeHandle_71 : decode c_mo_writeHandle 71 = .ok (.iload 4, 2) := by decide +kernel
theorem d_mo_writeHandle_73 : decode c_mo_writeHandle 73 = .ok (.aload_n 0, 1) := by decide +kernel
theorem d_mo_writeHandle_74 : decode c_mo_writeHandle 74 = .ok (.getfield 50, 3) := by decide +kernel
theorem d_mo_writeHandle_77 : decode c_mo_writeHandle 77 = .ok (.aload_n 0, 1) := by decide +kernel
theorem d_mo_writeHandle_78 : decode c_mo_writeHandle 78 = .ok (.getfield 123, 3) := by decide +kernel
theorem d_mo_writeHandle_81 : decode c_mo_writeHandle 81 = .ok (.iload_n 2, 1) := by decide +kernel
theorem d_mo_writeHandle_82 : decode c_mo_writeHandle 82 = .ok (.iaload, 1) := by decide +kernel
theorem d_mo_writeHandle_83 : decode c_mo_writeHandle 83 = .ok (.iaload, 1) := by decide +kernel
theorem d_mo_writeHandle_84 : decode c_mo_writeHandle 84 = .ok (.iastore, 1) := by decide +kernel
theorem d_mo_writeHandle_85 : decode c_mo_writeHandle 85 = .ok (.aload_n 0, 1) := by decide +kernel
theorem d_mo_writeHandle_86 : decode c_mo_writeHandle 86 = .ok (.getfield 56, 3) := by decide +kernel
theorem d_mo_writeHandle_89 : decode c_mo_writeHandle 89 = .ok (.iload 4, 2) := by decide +kernel
theorem d_mo_writeHandle_91 : decode c_mo_writeHandle 91 = .ok (.aload_n 0, 1) := by decide +kernel
theorem d_mo_writeHandle_92 : decode c_mo_writeHandle 92 = .ok (.getfield 123, 3) := by decide +kernel
theorem d_mo_writeHandle_95 : decode c_mo_writeHandle 95 = .ok (.iload_n 2, 1) := by decide +kernel
theorem d_mo_writeHandle_96 : decode c_mo_writeHandle 96 = .ok (.iaload, 1) := by decide +kernel
theorem d_mo_writeHandle_97 : decode c_mo_writeHandle 97 = .ok (.iastore, 1) := by decide +kernel
theorem d_mo_writeHandle_98 : decode c_mo_writeHandle 98 = .ok (.aload_n 0, 1) := by decide +kernel
theorem d_mo_writeHandle_99 : decode c_mo_writeHandle 99 = .ok (.getfield 135, 3) := by decide +kernel
theorem d_mo_writeHandle_102 : decode c_mo_writeHandle 102 = .ok (.aload_n 0, 1) := by decide +kernel
theorem d_mo_writeHandle_103 : decode c_mo_writeHandle 103 = .ok (.getfield 260, 3) := by decide +kernel
theorem d_mo_writeHandle_106 : decode c_mo_writeHandle 106 = .ok (.iload 4, 2) := by decide +kernel
theorem d_mo_writeHandle_108 : decode c_mo_writeHandle 108 = .ok (.iastore, 1) := by decide +kernel
theorem d_mo_writeHandle_109 : decode c_mo_writeHandle 109 = .ok (.aload_n 0, 1) := by decide +kernel
theorem d_mo_writeHandle_110 : decode c_mo_writeHandle 110 = .ok (.dup, 1) := by decide +kernel
theorem d_mo_writeHandle_111 : decode c_mo_writeHandle 111 = .ok (.getfield 260, 3) := by decide +kernel
theorem d_mo_writeHandle_114 : decode c_mo_writeHandle 114 = .ok (.iconst 1, 1) := by decide +kernel
theorem d_mo_writeHandle_115 : decode c_mo_writeHandle 115 = .ok (.iadd, 1) := by decide +kernel
theorem d_mo_writeHandle_116 : decode c_mo_writeHandle 116 = .ok (.putfield 260, 3) := by decide +kernel
theorem d_mo_writeHandle_119 : decode c_mo_writeHandle 119 = .ok (.aload_n 0, 1) := by decide +kernel
theorem d_mo_writeHandle_120 : decode c_mo_writeHandle 120 = .ok (.iload_n 1, 1) := by decide +kernel
theorem d_mo_writeHandle_121 : decode c_mo_writeHandle 121 = .ok (.aload_n 0, 1) := by decide +kernel
theorem d_mo_writeHandle_122 : decode c_mo_writeHandle 122 = .ok (.getfield 129, 3) := by decide +kernel
theorem d_mo_writeHandle_125 : decode c_mo_writeHandle 125 = .ok (.iload_n 2, 1) := by decide +kernel
theorem d_mo_writeHandle_126 : decode c_mo_writeHandle 126 = .ok (.iaload, 1) := by decide +kernel
theorem d_mo_writeHandle_127 : decode c_mo_writeHandle 127 = .ok (.iconst 1, 1) := by decide +kernel
theorem d_mo_writeHandle_128 : decode c_mo_writeHandle 128 = .ok (.iload_n 3, 1) := by decide +kernel
theorem d_mo_writeHandle_129 : decode c_mo_writeHandle 129 = .ok (.invokevirtual 263, 3) := by decide +kernel
theorem d_mo_writeHandle_132 : decode c_mo_writeHandle 132 = .ok (.return_, 1) := by decide +kernel
end
section
theorem mo_upid {α : Type} (B : Nat → α) (k : Nat) : va_up B k (B k) = B := by
  funext j
  by_cases e : j = k
  · subst e; simp [va_up]
  · simp [va_up, e]
/-- the handles that were made for a value that was being passed are given back -/
def mo_t1 (u fo : Nat → Int32) : Nat → Nat → Int32
  | 0 => u
  | n + 1 => upd (mo_t1 u fo n) (fo n).toNatClampNeg 0
/-- what is lent is in use no more -/
def mo_t2 (u ow : Nat → Int32) : Nat → Nat → Int32
  | 0 => u
  | n + 1 => upd (mo_t2 u ow n) n (if ¬ mo_t2 u ow n n = 0 ∧ ¬ ow n = 0 then 1 else 0)
def mo_t3 (s ru : Nat → Int32) : Nat → Nat → Int32
  | 0 => s
  | n + 1 => upd (mo_t3 s ru n) (ru n).toNatClampNeg 0
def mo_t4 (h : Nat → Int32) : Nat → Nat → Int32
  | 0 => h
  | n + 1 => upd (mo_t4 h n) n 128
def mo_tB (B : Nat → Nat → Int32) (Fr Lv z : Nat) : Nat → Nat → Int32 := va_up (va_up (va_up (va_up B 16 (mo_t2 (mo_t1 (B 16) (B 53) Fr) (B 18) 102)) 15 (mo_t3 (B 15) (B 30) Lv)) 14 (mo_t4 (B 14) 6)) 15 (upd (mo_t3 (B 15) (B 30) Lv) z 2)
def mo_tF (F : Nat → Int32) (c p z : Int32) : Nat → Int32 := upd (upd (upd (upd (upd F 52 0) 29 0) 33 c) 34 p) 35 z

set_option maxHeartbeats 4000000 in
set_option maxRecDepth 100000 in
theorem mt_trapped {l : Launch} {D : va_G} {tl : List (ClassId × FieldType)} {Z : (Nat → Prop) → State → Heap → Prop} {kI kZ : ClassId} {am : Nat → Nat} {F : Nat → Int32} {B : Nat → Nat → Int32} (hZ : ev_Zok Z) (c : Int32) (p : Int32) (z : Nat) (Fr Lv : Nat) (hFr : F 52 = nI Fr) (hF16 : Fr ≤ 16) (hfo : ∀ k, k < Fr → vp_in (B 53 k) 102) (hLv : F 29 = nI Lv) (hL6 : Lv ≤ 6) (hru : ∀ k, k < Lv → vp_in (B 30 k) 6) (hz : z < 6) : MT (mo_π l D cl_A kI kZ tl Z) m_trapped 0 0 [.ref (am 60), .int c, .int p, .int (nI z)] (mo_W mo_ci am kI kZ F B) (mo_qi am kI kZ (fun x F1 B1 => x = c ∧ F1 = mo_tF F c p (nI z) ∧ B1 = mo_tB B Fr Lv z)) := by
  refine mt_of mo_pl rfl (Nat.le_of_ble_eq_true rfl) (ev_eq (lv' := [some (.ref (am 60)), some (.int c), some (.int p), some (.int (nI z)), none]) ?_)
  have L123 : ∀ m n : Nat, 6 - n < m → n ≤ 6 → EV (mo_π l D cl_A kI kZ tl Z) m_trapped (ev_E (mo_π l D cl_A kI kZ tl Z) 0 0 (mo_qi am kI kZ (fun x F1 B1 => x = c ∧ F1 = mo_tF F c p (nI z) ∧ B1 = mo_tB B Fr Lv z))) 0 0 123 [some (.ref (am 60)), some (.int c), some (.int p), some (.int (nI z)), some (.int (nI n))] [] (mo_W mo_ci am kI kZ (upd (upd F 52 0) 29 0) (va_up (va_up (va_up B 16 (mo_t2 (mo_t1 (B 16) (B 53) Fr) (B 18) 102)) 15 (mo_t3 (B 15) (B 30) Lv)) 14 (mo_t4 (B 14) n))) := by
    intro m
    induction m with
    | zero => intro n h; omega
    | succ m ih =>
      intro n hm hn
      refine ev_iload_4 123 d_mo_trapped_123 ?_
      refine ev_bipush (6) 125 d_mo_trapped_125 (by decide) ?_
      refine ev_icmpge 127 146 d_mo_trapped_127 (fun c127 => ?_) (fun c127 => ?_)
      · have h127 := n_le 6 n c127
        obtain rfl : n = 6 := by omega
        refine ev_aload_0 146 d_mo_trapped_146 ?_
        refine mo_getr 147 11 15 d_mo_trapped_147 lk_43 ?_
        refine ev_iload_3 150 d_mo_trapped_150 ?_
        refine ev_iconst_2 151 d_mo_trapped_151 ?_
        refine mo_astn (j := z) 152 11 15 d_mo_trapped_152 (by exact hz) ?_
        refine ev_aload_0 153 d_mo_trapped_153 ?_
        refine ev_iload_1 154 d_mo_trapped_154 ?_
        refine mo_puti 155 33 d_mo_trapped_155 lp_278 ?_
        refine ev_aload_0 158 d_mo_trapped_158 ?_
        refine ev_iload_2 159 d_mo_trapped_159 ?_
        refine mo_puti 160 34 d_mo_trapped_160 lp_281 ?_
        refine ev_aload_0 163 d_mo_trapped_163 ?_
        refine ev_iload_3 164 d_mo_trapped_164 ?_
        refine mo_puti 165 35 d_mo_trapped_165 lp_89 ?_
        refine ev_iload_1 168 d_mo_trapped_168 ?_
        refine ev_iret 169 d_mo_trapped_169 rfl ?_
        exact ⟨_, _, _, rfl, rfl, rfl, rfl, rfl⟩
      · have h127 := n_nle 6 n c127
        refine ev_aload_0 130 d_mo_trapped_130 ?_
        refine mo_getr 131 10 14 d_mo_trapped_131 lk_40 ?_
        refine ev_iload_4 134 d_mo_trapped_134 ?_
        refine ev_sipush (128) 136 d_mo_trapped_136 (by decide) ?_
        refine mo_astn (j := n) 139 10 14 d_mo_trapped_139 (by show n < 6; omega) ?_
        refine ev_iinc_4 140 d_mo_trapped_140 ?_
        refine ev_goto 143 123 d_mo_trapped_143 ?_
        exact ev_eq (ih (n + 1) (by omega) (by omega)) (h1 := by rw [n_i1]) (h3 := by exact congrArg (mo_W mo_ci am kI kZ _) (bx_uu _ 14 _ _))
  have L87 : ∀ m n : Nat, Lv - n < m → n ≤ Lv → EV (mo_π l D cl_A kI kZ tl Z) m_trapped (ev_E (mo_π l D cl_A kI kZ tl Z) 0 0 (mo_qi am kI kZ (fun x F1 B1 => x = c ∧ F1 = mo_tF F c p (nI z) ∧ B1 = mo_tB B Fr Lv z))) 0 0 87 [some (.ref (am 60)), some (.int c), some (.int p), some (.int (nI z)), some (.int (nI n))] [] (mo_W mo_ci am kI kZ (upd F 52 0) (va_up (va_up B 16 (mo_t2 (mo_t1 (B 16) (B 53) Fr) (B 18) 102)) 15 (mo_t3 (B 15) (B 30) n))) := by
    intro m
    induction m with
    | zero => intro n h; omega
    | succ m ih =>
      intro n hm hn
      refine ev_iload_4 87 d_mo_trapped_87 ?_
      refine ev_aload_0 89 d_mo_trapped_89 ?_
      refine mo_geti 90 29 d_mo_trapped_90 lk_208 ?_
      refine ev_icmpge 93 115 d_mo_trapped_93 (fun c93 => ?_) (fun c93 => ?_)
      · have h93 := n_le Lv n c93 hLv
        have e93 : n = Lv := by omega
        subst n
        refine ev_aload_0 115 d_mo_trapped_115 ?_
        refine ev_iconst_0 116 d_mo_trapped_116 ?_
        refine mo_puti 117 29 d_mo_trapped_117 lp_208 ?_
        refine ev_iconst_0 120 d_mo_trapped_120 ?_
        refine ev_istore_4 121 d_mo_trapped_121 ?_
        exact ev_eq (L123 7 0 (by omega) (by omega)) (h3 := congrArg (mo_W mo_ci am kI kZ _) (mo_upid _ 14).symm)
      · have h93 := n_nle Lv n c93 hLv
        refine ev_aload_0 96 d_mo_trapped_96 ?_
        refine mo_getr 97 11 15 d_mo_trapped_97 lk_43 ?_
        refine ev_aload_0 100 d_mo_trapped_100 ?_
        refine mo_getr 101 23 30 d_mo_trapped_101 lk_80 ?_
        refine ev_iload_4 104 d_mo_trapped_104 ?_
        refine mo_aldn (j := n) 106 23 30 d_mo_trapped_106 (by show n < 6; omega) ?_
        refine ev_iconst_0 107 d_mo_trapped_107 ?_
        refine mo_ast 108 11 15 d_mo_trapped_108 (by exact hru n (by omega)) ?_
        refine ev_iinc_4 109 d_mo_trapped_109 ?_
        refine ev_goto 112 87 d_mo_trapped_112 ?_
        exact ev_eq (ih (n + 1) (by omega) (by omega)) (h1 := by rw [n_i1]) (h3 := by exact congrArg (mo_W mo_ci am kI kZ _) (bx_uu _ 15 _ _))
  have L39 : ∀ m n : Nat, 102 - n < m → n ≤ 102 → EV (mo_π l D cl_A kI kZ tl Z) m_trapped (ev_E (mo_π l D cl_A kI kZ tl Z) 0 0 (mo_qi am kI kZ (fun x F1 B1 => x = c ∧ F1 = mo_tF F c p (nI z) ∧ B1 = mo_tB B Fr Lv z))) 0 0 39 [some (.ref (am 60)), some (.int c), some (.int p), some (.int (nI z)), some (.int (nI n))] [] (mo_W mo_ci am kI kZ (upd F 52 0) (va_up B 16 (mo_t2 (mo_t1 (B 16) (B 53) Fr) (B 18) n))) := by
    intro m
    induction m with
    | zero => intro n h; omega
    | succ m ih =>
      intro n hm hn
      refine ev_iload_4 39 d_mo_trapped_39 ?_
      refine ev_bipush (102) 41 d_mo_trapped_41 (by decide) ?_
      refine ev_icmpge 43 84 d_mo_trapped_43 (fun c43 => ?_) (fun c43 => ?_)
      · have h43 := n_le 102 n c43
        obtain rfl : n = 102 := by omega
        refine ev_iconst_0 84 d_mo_trapped_84 ?_
        refine ev_istore_4 85 d_mo_trapped_85 ?_
        exact ev_eq (L87 (Lv + 1) 0 (by omega) (by omega)) (h3 := congrArg (mo_W mo_ci am kI kZ _) (mo_upid _ 15).symm)
      · have h43 := n_nle 102 n c43
        refine ev_aload_0 46 d_mo_trapped_46 ?_
        refine mo_getr 47 12 16 d_mo_trapped_47 lk_46 ?_
        refine ev_iload_4 50 d_mo_trapped_50 ?_
        refine ev_aload_0 52 d_mo_trapped_52 ?_
        refine mo_getr 53 12 16 d_mo_trapped_53 lk_46 ?_
        refine ev_iload_4 56 d_mo_trapped_56 ?_
        refine mo_zldn (j := n) 58 12 16 d_mo_trapped_58 (by show n < 102; omega) ?_
        refine ev_ifeq 59 76 d_mo_trapped_59 (fun c59 => ?_) (fun c59 => ?_)
        · refine ev_iconst_0 76 d_mo_trapped_76 ?_
          refine mo_zstn (j := n) 77 12 16 d_mo_trapped_77 (by show n < 102; omega) (by first | exact Or.inl rfl | exact Or.inr rfl) ?_
          refine ev_iinc_4 78 d_mo_trapped_78 ?_
          refine ev_goto 81 39 d_mo_trapped_81 ?_
          exact ev_eq (ih (n + 1) (by omega) (by omega)) (h1 := by rw [n_i1]) (h3 := by rw [mo_t2, if_neg (fun q => q.1 c59)]; exact congrArg (mo_W mo_ci am kI kZ _) (bx_uu _ 16 _ _))
        · refine ev_aload_0 62 d_mo_trapped_62 ?_
          refine mo_getr 63 14 18 d_mo_trapped_63 lk_53 ?_
          refine ev_iload_4 66 d_mo_trapped_66 ?_
          refine mo_zldn (j := n) 68 14 18 d_mo_trapped_68 (by show n < 102; omega) ?_
          refine ev_ifeq 69 76 d_mo_trapped_69 (fun c69 => ?_) (fun c69 => ?_)
          · refine ev_iconst_0 76 d_mo_trapped_76 ?_
            refine mo_zstn (j := n) 77 12 16 d_mo_trapped_77 (by show n < 102; omega) (by first | exact Or.inl rfl | exact Or.inr rfl) ?_
            refine ev_iinc_4 78 d_mo_trapped_78 ?_
            refine ev_goto 81 39 d_mo_trapped_81 ?_
            exact ev_eq (ih (n + 1) (by omega) (by omega)) (h1 := by rw [n_i1]) (h3 := by rw [mo_t2, if_neg (fun q => q.2 c69)]; exact congrArg (mo_W mo_ci am kI kZ _) (bx_uu _ 16 _ _))
          · refine ev_iconst_1 72 d_mo_trapped_72 ?_
            refine ev_goto 73 77 d_mo_trapped_73 ?_
            refine mo_zstn (j := n) 77 12 16 d_mo_trapped_77 (by show n < 102; omega) (by first | exact Or.inl rfl | exact Or.inr rfl) ?_
            refine ev_iinc_4 78 d_mo_trapped_78 ?_
            refine ev_goto 81 39 d_mo_trapped_81 ?_
            exact ev_eq (ih (n + 1) (by omega) (by omega)) (h1 := by rw [n_i1]) (h3 := by rw [mo_t2, if_pos ⟨c59, c69⟩]; exact congrArg (mo_W mo_ci am kI kZ _) (bx_uu _ 16 _ _))
  have L3 : ∀ m n : Nat, Fr - n < m → n ≤ Fr → EV (mo_π l D cl_A kI kZ tl Z) m_trapped (ev_E (mo_π l D cl_A kI kZ tl Z) 0 0 (mo_qi am kI kZ (fun x F1 B1 => x = c ∧ F1 = mo_tF F c p (nI z) ∧ B1 = mo_tB B Fr Lv z))) 0 0 3 [some (.ref (am 60)), some (.int c), some (.int p), some (.int (nI z)), some (.int (nI n))] [] (mo_W mo_ci am kI kZ F (va_up B 16 (mo_t1 (B 16) (B 53) n))) := by
    intro m
    induction m with
    | zero => intro n h; omega
    | succ m ih =>
      intro n hm hn
      refine ev_iload_4 3 d_mo_trapped_3 ?_
      refine ev_aload_0 5 d_mo_trapped_5 ?_
      refine mo_geti 6 52 d_mo_trapped_6 lk_260 ?_
      refine ev_icmpge 9 31 d_mo_trapped_9 (fun c9 => ?_) (fun c9 => ?_)
      · have h9 := n_le Fr n c9 hFr
        have e9 : n = Fr := by omega
        subst n
        refine ev_aload_0 31 d_mo_trapped_31 ?_
        refine ev_iconst_0 32 d_mo_trapped_32 ?_
        refine mo_puti 33 52 d_mo_trapped_33 lp_260 ?_
        refine ev_iconst_0 36 d_mo_trapped_36 ?_
        refine ev_istore_4 37 d_mo_trapped_37 ?_
        exact L39 103 0 (by omega) (by omega)
      · have h9 := n_nle Fr n c9 hFr
        refine ev_aload_0 12 d_mo_trapped_12 ?_
        refine mo_getr 13 12 16 d_mo_trapped_13 lk_46 ?_
        refine ev_aload_0 16 d_mo_trapped_16 ?_
        refine mo_getr 17 40 53 d_mo_trapped_17 lk_135 ?_
        refine ev_iload_4 20 d_mo_trapped_20 ?_
        refine mo_aldn (j := n) 22 40 53 d_mo_trapped_22 (by show n < 16; omega) ?_
        refine ev_iconst_0 23 d_mo_trapped_23 ?_
        refine mo_zst 24 12 16 d_mo_trapped_24 (by exact hfo n (by omega)) ?_
        refine ev_iinc_4 25 d_mo_trapped_25 ?_
        refine ev_goto 28 3 d_mo_trapped_28 ?_
        exact ev_eq (ih (n + 1) (by omega) (by omega)) (h1 := by rw [n_i1]) (h3 := by exact congrArg (mo_W mo_ci am kI kZ _) (bx_uu _ 16 _ _))
  refine ev_iconst_0 0 d_mo_trapped_0 ?_
  refine ev_istore_4 1 d_mo_trapped_1 ?_
  exact ev_eq (L3 (Fr + 1) 0 (by omega) (by omega)) (h3 := congrArg (mo_W mo_ci am kI kZ _) (mo_upid _ 16).symm)

set_option maxHeartbeats 4000000 in
set_option maxRecDepth 100000 in
theorem mt_trap {l : Launch} {D : va_G} {tl : List (ClassId × FieldType)} {Z : (Nat → Prop) → State → Heap → Prop} {kI kZ : ClassId} {am : Nat → Nat} {F : Nat → Int32} {B : Nat → Nat → Int32} (hZ : ev_Zok Z) (Lv : Nat) (hLv : F 29 = nI Lv) (hL6 : Lv ≤ 6) (R : Nat) (hR : 0 < Lv → B 30 (Lv - 1) = nI R ∧ R < 6) (hru : ∀ k, k < Lv → vp_in (B 30 k) 6) : MT (mo_π l D cl_A kI kZ tl Z) m_trap 0 0 [.ref (am 60)] (mo_W mo_ci am kI kZ F B) (mo_qv am kI kZ (fun F1 B1 => (F 29 = 0 ∧ F1 = upd F 0 1 ∧ B1 = B) ∨ (¬ F 29 = 0 ∧ F1 = mo_tF (upd (upd F 0 0) 52 0) 13 0 (nI R) ∧ B1 = mo_tB B 0 Lv R))) := by
  refine mt_of mo_pl rfl (Nat.le_of_ble_eq_true rfl) (ev_eq (lv' := [some (.ref (am 60))]) ?_)
  refine ev_aload_0 0 d_mo_trap_0 ?_
  refine ev_aload_0 1 d_mo_trap_1 ?_
  refine mo_geti 2 29 d_mo_trap_2 lk_208 ?_
  refine ev_ifne 5 12 d_mo_trap_5 (fun c5 => ?_) (fun c5 => ?_)
  · have hp : 0 < Lv := Nat.pos_of_ne_zero (fun z => c5 (by rw [hLv, z]; rfl))
    refine ev_iconst_0 12 d_mo_trap_12 ?_
    refine mo_calli1 13 d_mo_trap_13 hZ kc_157 (mt_refuses hZ _) (fun x F1 B1 h => ?_)
    obtain ⟨hx, e1, e2⟩ := h
    subst F1
    subst B1
    refine ev_ifeq 16 20 d_mo_trap_16 (fun c16 => ?_) (fun c16 => ?_)
    · refine ev_aload_0 20 d_mo_trap_20 ?_
      refine ev_iconst_0 21 d_mo_trap_21 ?_
      refine mo_puti 22 52 d_mo_trap_22 lp_260 ?_
      refine ev_aload_0 25 d_mo_trap_25 ?_
      refine ev_bipush (13) 26 d_mo_trap_26 (by decide) ?_
      refine ev_iconst_0 28 d_mo_trap_28 ?_
      refine ev_aload_0 29 d_mo_trap_29 ?_
      refine mo_getr 30 23 30 d_mo_trap_30 lk_80 ?_
      refine ev_aload_0 33 d_mo_trap_33 ?_
      refine mo_geti 34 29 d_mo_trap_34 lk_208 ?_
      refine ev_iconst_1 37 d_mo_trap_37 ?_
      refine ev_isub 38 d_mo_trap_38 ?_
      refine ev_topi (nI (Lv - 1)) (by show F 29 - 1 = nI (Lv - 1); rw [hLv]; exact n_s1 hp) ?_
      refine mo_aldn (j := Lv - 1) 39 23 30 d_mo_trap_39 (by show Lv - 1 < 6; omega) ?_
      refine ev_topi (nI R) (hR hp).1 ?_
      refine mo_calli3 40 d_mo_trap_40 hZ kc_284 (mt_trapped (F := upd (upd F 0 0) 52 0) hZ _ _ R 0 Lv rfl (by omega) (fun k h => absurd h (by omega)) hLv hL6 hru (hR hp).2) (fun y F1 B1 h => ?_)
      obtain ⟨rfl, e1, e2⟩ := h
      subst F1
      subst B1
      refine ev_pop_i 43 d_mo_trap_43 ?_
      refine ev_vret 44 d_mo_trap_44 rfl ?_
      exact ⟨_, _, rfl, rfl, Or.inr ⟨c5, rfl, rfl⟩⟩
    · exact absurd (mo_r0 hx) c16
  · refine ev_iconst_1 8 d_mo_trap_8 ?_
    refine ev_goto 9 13 d_mo_trap_9 ?_
    refine mo_calli1 13 d_mo_trap_13 hZ kc_157 (mt_refuses hZ _) (fun x F1 B1 h => ?_)
    obtain ⟨hx, e1, e2⟩ := h
    subst F1
    subst B1
    refine ev_ifeq 16 20 d_mo_trap_16 (fun c16 => ?_) (fun c16 => ?_)
    · exact absurd c16 (mo_rk hx (by decide))
    · refine ev_vret 19 d_mo_trap_19 rfl ?_
      exact ⟨_, _, rfl, rfl, Or.inl ⟨c5, rfl, rfl⟩⟩
end
section
/-- byte j of a long -/
def mo_by (w : Int64) (j : Nat) : Int32 := ((w.toUInt64 >>> ((8 * nI j : Int32).toInt64.toUInt64 &&& Int64.toUInt64 63)).toInt64 &&& 255).toInt32
def mo_wb (f : Nat → Int32) (b : Nat) (w : Int64) : Nat → Nat → Int32
  | 0 => f
  | j + 1 => upd (mo_wb f b w j) (b + j) (mo_by w j)
/-- the bytes of an int, the lowest first -/
def mo_pb (f : Nat → Int32) (b : Nat) (v : Int32) : Nat → Nat → Int32
  | 0 => f
  | j + 1 => upd (mo_pb f b v j) (b + j) ((v >>> ((8 * nI j) &&& 31)) &&& 255)
def mo_zf (f : Nat → Int32) (b : Nat) : Nat → Nat → Int32
  | 0 => f
  | j + 1 => upd (mo_zf f b j) (b + j) 0
theorem n_r8 {x : Int32} (h1 : ¬ x < 1) (h2 : x ≤ 8) : ∃ j : Nat, 1 ≤ j ∧ j ≤ 8 ∧ x = nI j := by
  obtain ⟨j, hj, rfl⟩ := nI_of2 (M := 8) (n := 8) rfl (fun z => h1 (Int32.lt_of_lt_of_le z (by decide))) h2
  exact ⟨j, n_nlt j 1 h1, hj, rfl⟩
theorem n_r255 {x : Int32} (h1 : ¬ x < 0) (h2 : x ≤ 255) : ∃ j : Nat, j < 256 ∧ x = nI j := by
  obtain ⟨j, hj, rfl⟩ := nI_of2 (M := 255) (n := 255) rfl h1 h2
  exact ⟨j, by omega, rfl⟩
/-- the least multiple of al that is not below a -/
def mo_ut (a al : Nat) : Nat := (a + al - 1) / al * al
theorem mo_ut_eq {a al : Nat} (ha : a ≤ 1000000) (h0 : 0 < al) (h1 : al ≤ 1000) : (nI a + nI al - 1) / nI al * nI al = nI (mo_ut a al) := by
  rw [nI_add, n_1, pk_sub (by omega), pk_div (by omega) h0 (by omega), pk_mul, mo_ut]

set_option maxHeartbeats 4000000 in
set_option maxRecDepth 100000 in
theorem mt_write {l : Launch} {D : va_G} {tl : List (ClassId × FieldType)} {Z : (Nat → Prop) → State → Heap → Prop} {kI kZ : ClassId} {am : Nat → Nat} {F : Nat → Int32} {B : Nat → Nat → Int32} (hZ : ev_Zok Z) (i : Int32) (p : Int32) (n : Int32) (w : Int64) (NI : Nat) (hNI : F 12 = nI NI) (hN6 : NI ≤ 6) : MT (mo_π l D cl_A kI kZ tl Z) m_write 0 0 [.ref (am 60), .int i, .int p, .int n, .long w] (mo_W mo_ci am kI kZ F B) (mo_qv am kI kZ (fun F1 B1 => ((¬ (¬ i < 0 ∧ ¬ F 12 ≤ i) ∨ n < 1 ∨ 8 < n) ∧ F1 = upd F 0 1 ∧ B1 = B) ∨ ((¬ i < 0 ∧ ¬ F 12 ≤ i) ∧ ¬ n < 1 ∧ ¬ 8 < n ∧ (p < 0 ∨ 255 < p) ∧ F1 = upd F 0 2 ∧ B1 = B) ∨ (∃ ii a nn, ii < NI ∧ a < 256 ∧ 1 ≤ nn ∧ nn ≤ 8 ∧ i = nI ii ∧ p = nI a ∧ n = nI nn ∧ F1 = upd F 0 0 ∧ B1 = va_up B 13 (mo_wb (B 13) (256 * ii + a) w (min nn (256 - a)))))) := by
  refine mt_of mo_pl rfl (Nat.le_of_ble_eq_true rfl) (ev_eq (lv' := [some (.ref (am 60)), some (.int i), some (.int p), some (.int n), some (.long w), none, none]) ?_)
  have L50 : ∀ ii a nn : Nat, ii < NI → a < 256 → 1 ≤ nn → nn ≤ 8 → i = nI ii → p = nI a → n = nI nn → ∀ m j : Nat, min nn (256 - a) - j < m → j ≤ min nn (256 - a) → EV (mo_π l D cl_A kI kZ tl Z) m_write (ev_E (mo_π l D cl_A kI kZ tl Z) 0 0 (mo_qv am kI kZ (fun F1 B1 => ((¬ (¬ i < 0 ∧ ¬ F 12 ≤ i) ∨ n < 1 ∨ 8 < n) ∧ F1 = upd F 0 1 ∧ B1 = B) ∨ ((¬ i < 0 ∧ ¬ F 12 ≤ i) ∧ ¬ n < 1 ∧ ¬ 8 < n ∧ (p < 0 ∨ 255 < p) ∧ F1 = upd F 0 2 ∧ B1 = B) ∨ (∃ ii a nn, ii < NI ∧ a < 256 ∧ 1 ≤ nn ∧ nn ≤ 8 ∧ i = nI ii ∧ p = nI a ∧ n = nI nn ∧ F1 = upd F 0 0 ∧ B1 = va_up B 13 (mo_wb (B 13) (256 * ii + a) w (min nn (256 - a))))))) 0 0 50 [some (.ref (am 60)), some (.int (nI ii)), some (.int (nI a)), some (.int (nI nn)), some (.long w), none, some (.int (nI j))] [] (mo_W mo_ci am kI kZ (upd F 0 0) (va_up B 13 (mo_wb (B 13) (256 * ii + a) w j))) := by
    intro ii a nn hii ha hn1 hn8 e1 e2 e3 m
    subst e1 e2 e3
    induction m with
    | zero => intro j h; omega
    | succ m ih =>
      intro j hm hj
      refine ev_iload_6 50 d_mo_write_50 ?_
      refine ev_iload_3 52 d_mo_write_52 ?_
      refine ev_icmpge 53 100 d_mo_write_53 (fun c53 => ?_) (fun c53 => ?_)
      · refine ev_vret 100 d_mo_write_100 rfl ?_
        have ej : j = min nn (256 - a) := by have := n_le nn j c53; omega
        subst j
        exact ⟨_, _, rfl, rfl, Or.inr (Or.inr ⟨ii, a, nn, hii, ha, hn1, hn8, rfl, rfl, rfl, rfl, rfl⟩)⟩
      · refine ev_iload_2 56 d_mo_write_56 ?_
        refine ev_iload_6 57 d_mo_write_57 ?_
        refine ev_iadd 59 d_mo_write_59 ?_
        refine ev_sipush (256) 60 d_mo_write_60 (by decide) ?_
        refine ev_icmpge 63 100 d_mo_write_63 (fun c63 => ?_) (fun c63 => ?_)
        · refine ev_vret 100 d_mo_write_100 rfl ?_
          have ej : j = min nn (256 - a) := by have := n_le 256 (a + j) c63 rfl (by rw [nI_add]); omega
          subst j
          exact ⟨_, _, rfl, rfl, Or.inr (Or.inr ⟨ii, a, nn, hii, ha, hn1, hn8, rfl, rfl, rfl, rfl, rfl⟩)⟩
        · refine ev_aload_0 66 d_mo_write_66 ?_
          refine mo_getr 67 9 13 d_mo_write_67 lk_37 ?_
          refine ev_sipush (256) 70 d_mo_write_70 (by decide) ?_
          refine ev_iload_1 73 d_mo_write_73 ?_
          refine ev_imul 74 d_mo_write_74 ?_
          refine ev_iload_2 75 d_mo_write_75 ?_
          refine ev_iadd 76 d_mo_write_76 ?_
          refine ev_iload_6 77 d_mo_write_77 ?_
          refine ev_iadd 79 d_mo_write_79 ?_
          refine ev_lload_4 80 d_mo_write_80 ?_
          refine ev_bipush (8) 82 d_mo_write_82 (by decide) ?_
          refine ev_iload_6 84 d_mo_write_84 ?_
          refine ev_imul 86 d_mo_write_86 ?_
          refine ev_lushr 87 d_mo_write_87 ?_
          refine ev_ldc2 (255) 88 d_mo_write_88 kq_206 ?_
          refine ev_land 91 d_mo_write_91 ?_
          refine ev_l2i 92 d_mo_write_92 ?_
          refine ev_sndi (nI (256 * ii + a + j)) (by rw [n_256, pk_mul, nI_add, nI_add]) ?_
          refine mo_astn (j := 256 * ii + a + j) 93 9 13 d_mo_write_93 (by have q1 := n_nle nn j c53; have q2 := n_nle 256 (a + j) c63 rfl (by rw [nI_add]); show 256 * ii + a + j < 1536; omega) ?_
          refine ev_iinc_6 94 d_mo_write_94 ?_
          refine ev_goto 97 50 d_mo_write_97 ?_
          have q1 := n_nle nn j c53
          have q2 := n_nle 256 (a + j) c63 rfl (by rw [nI_add])
          exact ev_eq (ih (j + 1) (by omega) (by omega)) (h1 := by rw [n_i1]) (h3 := congrArg (mo_W mo_ci am kI kZ _) (bx_uu _ 13 _ _))
  refine ev_aload_0 0 d_mo_write_0 ?_
  refine ev_aload_0 1 d_mo_write_1 ?_
  refine ev_iload_1 2 d_mo_write_2 ?_
  refine mo_calli1 3 d_mo_write_3 hZ kc_197 (mt_isInstance hZ _) (fun y F1 B1 h => ?_)
  obtain ⟨hy, e1, e2⟩ := h
  subst F1
  subst B1
  refine ev_ifeq 6 20 d_mo_write_6 (fun c6 => ?_) (fun c6 => ?_)
  · refine ev_iconst_1 20 d_mo_write_20 ?_
    refine ev_goto 21 40 d_mo_write_21 ?_
    refine mo_calli1 40 d_mo_write_40 hZ kc_157 (mt_refuses hZ _) (fun x F1 B1 h => ?_)
    obtain ⟨hx, e1, e2⟩ := h
    subst F1
    subst B1
    refine ev_ifeq 43 47 d_mo_write_43 (fun c43 => ?_) (fun c43 => ?_)
    · exact absurd c43 (mo_rk hx (by decide))
    · refine ev_vret 46 d_mo_write_46 rfl ?_
      exact ⟨_, _, rfl, rfl, Or.inl ⟨Or.inl (mo_b0 hy c6), rfl, rfl⟩⟩
  · refine ev_iload_3 9 d_mo_write_9 ?_
    refine ev_iconst_1 10 d_mo_write_10 ?_
    refine ev_icmplt 11 20 d_mo_write_11 (fun c11 => ?_) (fun c11 => ?_)
    · refine ev_iconst_1 20 d_mo_write_20 ?_
      refine ev_goto 21 40 d_mo_write_21 ?_
      refine mo_calli1 40 d_mo_write_40 hZ kc_157 (mt_refuses hZ _) (fun x F1 B1 h => ?_)
      obtain ⟨hx, e1, e2⟩ := h
      subst F1
      subst B1
      refine ev_ifeq 43 47 d_mo_write_43 (fun c43 => ?_) (fun c43 => ?_)
      · exact absurd c43 (mo_rk hx (by decide))
      · refine ev_vret 46 d_mo_write_46 rfl ?_
        exact ⟨_, _, rfl, rfl, Or.inl ⟨Or.inr (Or.inl c11), rfl, rfl⟩⟩
    · refine ev_iload_3 14 d_mo_write_14 ?_
      refine ev_bipush (8) 15 d_mo_write_15 (by decide) ?_
      refine ev_icmple 17 24 d_mo_write_17 (fun c17 => ?_) (fun c17 => ?_)
      · refine ev_iload_2 24 d_mo_write_24 ?_
        refine ev_iflt 25 35 d_mo_write_25 (fun c25 => ?_) (fun c25 => ?_)
        · refine ev_iconst_2 35 d_mo_write_35 ?_
          refine ev_goto 36 40 d_mo_write_36 ?_
          refine mo_calli1 40 d_mo_write_40 hZ kc_157 (mt_refuses hZ _) (fun x F1 B1 h => ?_)
          obtain ⟨hx, e1, e2⟩ := h
          subst F1
          subst B1
          refine ev_ifeq 43 47 d_mo_write_43 (fun c43 => ?_) (fun c43 => ?_)
          · exact absurd c43 (mo_rk hx (by decide))
          · refine ev_vret 46 d_mo_write_46 rfl ?_
            exact ⟨_, _, rfl, rfl, Or.inr (Or.inl ⟨mo_b1 hy c6, c11, Int32.not_lt.mpr c17, Or.inl c25, rfl, rfl⟩)⟩
        · refine ev_iload_2 28 d_mo_write_28 ?_
          refine ev_sipush (255) 29 d_mo_write_29 (by decide) ?_
          refine ev_icmple 32 39 d_mo_write_32 (fun c32 => ?_) (fun c32 => ?_)
          · refine ev_iconst_0 39 d_mo_write_39 ?_
            refine mo_calli1 40 d_mo_write_40 hZ kc_157 (mt_refuses hZ _) (fun x F1 B1 h => ?_)
            obtain ⟨hx, e1, e2⟩ := h
            subst F1
            subst B1
            refine ev_ifeq 43 47 d_mo_write_43 (fun c43 => ?_) (fun c43 => ?_)
            · refine ev_iconst_0 47 d_mo_write_47 ?_
              refine ev_istore_6 48 d_mo_write_48 ?_
              obtain ⟨ii, hii, rfl⟩ := n_ins hNI hN6 (mo_b1 hy c6)
              obtain ⟨nn, hn1, hn8, rfl⟩ := n_r8 c11 c17
              obtain ⟨a, ha, rfl⟩ := n_r255 c25 c32
              exact ev_eq (L50 ii a nn hii ha hn1 hn8 rfl rfl rfl 300 0 (by omega) (by omega)) (h3 := congrArg (mo_W mo_ci am kI kZ _) (mo_upid B 13).symm)
            · exact absurd (mo_r0 hx) c43
          · refine ev_iconst_2 35 d_mo_write_35 ?_
            refine ev_goto 36 40 d_mo_write_36 ?_
            refine mo_calli1 40 d_mo_write_40 hZ kc_157 (mt_refuses hZ _) (fun x F1 B1 h => ?_)
            obtain ⟨hx, e1, e2⟩ := h
            subst F1
            subst B1
            refine ev_ifeq 43 47 d_mo_write_43 (fun c43 => ?_) (fun c43 => ?_)
            · exact absurd c43 (mo_rk hx (by decide))
            · refine ev_vret 46 d_mo_write_46 rfl ?_
              exact ⟨_, _, rfl, rfl, Or.inr (Or.inl ⟨mo_b1 hy c6, c11, Int32.not_lt.mpr c17, Or.inr (Int32.not_le.mp c32), rfl, rfl⟩)⟩
      · refine ev_iconst_1 20 d_mo_write_20 ?_
        refine ev_goto 21 40 d_mo_write_21 ?_
        refine mo_calli1 40 d_mo_write_40 hZ kc_157 (mt_refuses hZ _) (fun x F1 B1 h => ?_)
        obtain ⟨hx, e1, e2⟩ := h
        subst F1
        subst B1
        refine ev_ifeq 43 47 d_mo_write_43 (fun c43 => ?_) (fun c43 => ?_)
        · exact absurd c43 (mo_rk hx (by decide))
        · refine ev_vret 46 d_mo_write_46 rfl ?_
          exact ⟨_, _, rfl, rfl, Or.inl ⟨Or.inr (Or.inr (Int32.not_le.mp c17)), rfl, rfl⟩⟩

set_option maxHeartbeats 4000000 in
set_option maxRecDepth 100000 in
theorem mt_put {l : Launch} {D : va_G} {tl : List (ClassId × FieldType)} {Z : (Nat → Prop) → State → Heap → Prop} {kI kZ : ClassId} {am : Nat → Nat} {F : Nat → Int32} {B : Nat → Nat → Int32} (hZ : ev_Zok Z) (J : Nat) (p : Nat) (k : Nat) (v : Int32) (hJ : J < 6) (hp : p + k ≤ 256) : MT (mo_π l D cl_A kI kZ tl Z) m_put 0 0 [.ref (am 60), .int (nI J), .int (nI p), .int (nI k), .int v] (mo_W mo_ci am kI kZ F B) (mo_qv am kI kZ (fun F1 B1 => F1 = F ∧ B1 = va_up B 13 (mo_pb (B 13) (256 * J + p) v k))) := by
  refine mt_of mo_pl rfl (Nat.le_of_ble_eq_true rfl) (ev_eq (lv' := [some (.ref (am 60)), some (.int (nI J)), some (.int (nI p)), some (.int (nI k)), some (.int v), none]) ?_)
  have L3 : ∀ m j : Nat, k - j < m → j ≤ k → EV (mo_π l D cl_A kI kZ tl Z) m_put (ev_E (mo_π l D cl_A kI kZ tl Z) 0 0 (mo_qv am kI kZ (fun F1 B1 => F1 = F ∧ B1 = va_up B 13 (mo_pb (B 13) (256 * J + p) v k)))) 0 0 3 [some (.ref (am 60)), some (.int (nI J)), some (.int (nI p)), some (.int (nI k)), some (.int v), some (.int (nI j))] [] (mo_W mo_ci am kI kZ F (va_up B 13 (mo_pb (B 13) (256 * J + p) v j))) := by
    intro m
    induction m with
    | zero => intro j h; omega
    | succ m ih =>
      intro j hm hj
      refine ev_iload_5 3 d_mo_put_3 ?_
      refine ev_iload_3 5 d_mo_put_5 ?_
      refine ev_icmpge 6 42 d_mo_put_6 (fun c6 => ?_) (fun c6 => ?_)
      · have h6 := n_le k j c6
        have ej : j = k := by omega
        subst j
        refine ev_vret 42 d_mo_put_42 rfl ?_
        exact ⟨_, _, rfl, rfl, rfl, rfl⟩
      · have h6 := n_nle k j c6
        refine ev_aload_0 9 d_mo_put_9 ?_
        refine mo_getr 10 9 13 d_mo_put_10 lk_37 ?_
        refine ev_sipush (256) 13 d_mo_put_13 (by decide) ?_
        refine ev_iload_1 16 d_mo_put_16 ?_
        refine ev_imul 17 d_mo_put_17 ?_
        refine ev_iload_2 18 d_mo_put_18 ?_
        refine ev_iadd 19 d_mo_put_19 ?_
        refine ev_iload_5 20 d_mo_put_20 ?_
        refine ev_iadd 22 d_mo_put_22 ?_
        refine ev_iload_4 23 d_mo_put_23 ?_
        refine ev_bipush (8) 25 d_mo_put_25 (by decide) ?_
        refine ev_iload_5 27 d_mo_put_27 ?_
        refine ev_imul 29 d_mo_put_29 ?_
        refine ev_ishr 30 d_mo_put_30 ?_
        refine ev_sipush (255) 31 d_mo_put_31 (by decide) ?_
        refine ev_iand 34 d_mo_put_34 ?_
        refine ev_sndi (nI (256 * J + p + j)) (by rw [n_256, pk_mul, nI_add, nI_add]) ?_
        refine mo_astn (j := 256 * J + p + j) 35 9 13 d_mo_put_35 (by show 256 * J + p + j < 1536; omega) ?_
        refine ev_iinc_5 36 d_mo_put_36 ?_
        refine ev_goto 39 3 d_mo_put_39 ?_
        exact ev_eq (ih (j + 1) (by omega) (by omega)) (h1 := by rw [n_i1]) (h3 := congrArg (mo_W mo_ci am kI kZ _) (bx_uu _ 13 _ _))
  refine ev_iconst_0 0 d_mo_put_0 ?_
  refine ev_istore_5 1 d_mo_put_1 ?_
  exact ev_eq (L3 (k + 1) 0 (by omega) (by omega)) (h3 := congrArg (mo_W mo_ci am kI kZ _) (mo_upid B 13).symm)

set_option maxHeartbeats 4000000 in
set_option maxRecDepth 100000 in
theorem mt_room {l : Launch} {D : va_G} {tl : List (ClassId × FieldType)} {Z : (Nat → Prop) → State → Heap → Prop} {kI kZ : ClassId} {am : Nat → Nat} {F : Nat → Int32} {B : Nat → Nat → Int32} (hZ : ev_Zok Z) (J : Nat) (k : Nat) (al : Nat) (hJ : J < 6) (hk : k ≤ 1000000000) (ha : 0 < al) (ha2 : al ≤ 1000) (hp : Nat) (hh : B 14 J = nI hp) (hp2 : hp ≤ 256) (hu : mo_ut hp al ≤ 1000000) : MT (mo_π l D cl_A kI kZ tl Z) m_room 0 0 [.ref (am 60), .int (nI J), .int (nI k), .int (nI al)] (mo_W mo_ci am kI kZ F B) (mo_qi am kI kZ (fun x F1 B1 => (256 < mo_ut hp al + k ∧ x = 0 ∧ F1 = mo_fl F 11 (nI (mo_ut hp al)) ∧ B1 = B) ∨ (mo_ut hp al + k ≤ 256 ∧ x = nI (mo_ut hp al) ∧ F1 = F ∧ B1 = va_up (va_up B 13 (mo_zf (B 13) (256 * J + mo_ut hp al) k)) 14 (upd (B 14) J (nI (mo_ut hp al + k)))))) := by
  refine mt_of mo_pl rfl (Nat.le_of_ble_eq_true rfl) (ev_eq (lv' := [some (.ref (am 60)), some (.int (nI J)), some (.int (nI k)), some (.int (nI al)), none, none]) ?_)
  have L35 : mo_ut hp al + k ≤ 256 → ∀ m j : Nat, k - j < m → j ≤ k → EV (mo_π l D cl_A kI kZ tl Z) m_room (ev_E (mo_π l D cl_A kI kZ tl Z) 0 0 (mo_qi am kI kZ (fun x F1 B1 => (256 < mo_ut hp al + k ∧ x = 0 ∧ F1 = mo_fl F 11 (nI (mo_ut hp al)) ∧ B1 = B) ∨ (mo_ut hp al + k ≤ 256 ∧ x = nI (mo_ut hp al) ∧ F1 = F ∧ B1 = va_up (va_up B 13 (mo_zf (B 13) (256 * J + mo_ut hp al) k)) 14 (upd (B 14) J (nI (mo_ut hp al + k))))))) 0 0 35 [some (.ref (am 60)), some (.int (nI J)), some (.int (nI k)), some (.int (nI al)), some (.int (nI (mo_ut hp al))), some (.int (nI j))] [] (mo_W mo_ci am kI kZ F (va_up B 13 (mo_zf (B 13) (256 * J + mo_ut hp al) j))) := by
    intro hq m
    induction m with
    | zero => intro j h; omega
    | succ m ih =>
      intro j hm hj
      refine ev_iload_5 35 d_mo_room_35 ?_
      refine ev_iload_2 37 d_mo_room_37 ?_
      refine ev_icmpge 38 64 d_mo_room_38 (fun c38 => ?_) (fun c38 => ?_)
      · have h38 := n_le k j c38
        have ej : j = k := by omega
        subst j
        refine ev_aload_0 64 d_mo_room_64 ?_
        refine mo_getr 65 10 14 d_mo_room_65 lk_40 ?_
        refine ev_iload_1 68 d_mo_room_68 ?_
        refine ev_iload_4 69 d_mo_room_69 ?_
        refine ev_iload_2 71 d_mo_room_71 ?_
        refine ev_iadd 72 d_mo_room_72 ?_
        rw [nI_add]
        refine mo_astn (j := J) 73 10 14 d_mo_room_73 (by exact hJ) ?_
        refine ev_iload_4 74 d_mo_room_74 ?_
        refine ev_iret 76 d_mo_room_76 rfl ?_
        exact ⟨_, _, _, rfl, rfl, Or.inr ⟨hq, rfl, rfl, rfl⟩⟩
      · have h38 := n_nle k j c38
        refine ev_aload_0 41 d_mo_room_41 ?_
        refine mo_getr 42 9 13 d_mo_room_42 lk_37 ?_
        refine ev_sipush (256) 45 d_mo_room_45 (by decide) ?_
        refine ev_iload_1 48 d_mo_room_48 ?_
        refine ev_imul 49 d_mo_room_49 ?_
        refine ev_iload_4 50 d_mo_room_50 ?_
        refine ev_iadd 52 d_mo_room_52 ?_
        refine ev_iload_5 53 d_mo_room_53 ?_
        refine ev_iadd 55 d_mo_room_55 ?_
        refine ev_iconst_0 56 d_mo_room_56 ?_
        refine ev_sndi (nI (256 * J + mo_ut hp al + j)) (by rw [n_256, pk_mul, nI_add, nI_add]) ?_
        refine mo_astn (j := 256 * J + mo_ut hp al + j) 57 9 13 d_mo_room_57 (by show 256 * J + mo_ut hp al + j < 1536; omega) ?_
        refine ev_iinc_5 58 d_mo_room_58 ?_
        refine ev_goto 61 35 d_mo_room_61 ?_
        exact ev_eq (ih (j + 1) (by omega) (by omega)) (h1 := by rw [n_i1]) (h3 := congrArg (mo_W mo_ci am kI kZ _) (bx_uu _ 13 _ _))
  refine ev_aload_0 0 d_mo_room_0 ?_
  refine mo_getr 1 10 14 d_mo_room_1 lk_40 ?_
  refine ev_iload_1 4 d_mo_room_4 ?_
  refine mo_aldn (j := J) 5 10 14 d_mo_room_5 (by exact hJ) ?_
  refine ev_topi (nI hp) hh ?_
  refine ev_iload_3 6 d_mo_room_6 ?_
  refine mo_scalli2 7 d_mo_room_7 hZ kc_173 (mt_upTo hZ _ _ (fun z => absurd ((n_z (by omega)).mp z) (by omega))) (fun y F1 B1 h => ?_)
  obtain ⟨rfl, e1, e2⟩ := h
  subst F1
  subst B1
  refine ev_topi (nI (mo_ut hp al)) (mo_ut_eq (by omega) ha (by omega)) ?_
  refine ev_istore_4 10 d_mo_room_10 ?_
  refine ev_iload_4 12 d_mo_room_12 ?_
  refine ev_iload_2 14 d_mo_room_14 ?_
  refine ev_iadd 15 d_mo_room_15 ?_
  refine ev_sipush (256) 16 d_mo_room_16 (by decide) ?_
  refine ev_icmple 19 32 d_mo_room_19 (fun c19 => ?_) (fun c19 => ?_)
  · refine ev_iconst_0 32 d_mo_room_32 ?_
    refine ev_istore_5 33 d_mo_room_33 ?_
    have hq := n_le (mo_ut hp al + k) 256 c19 (by rw [nI_add])
    exact ev_eq (L35 hq (k + 1) 0 (by omega) (by omega)) (h3 := congrArg (mo_W mo_ci am kI kZ _) (mo_upid B 13).symm)
  · refine ev_aload_0 22 d_mo_room_22 ?_
    refine ev_bipush (11) 23 d_mo_room_23 (by decide) ?_
    refine ev_iload_4 25 d_mo_room_25 ?_
    refine mo_callv2 27 d_mo_room_27 hZ kc_230 (mt_fails hZ _ _) (fun F1 B1 h => ?_)
    obtain ⟨e1, e2⟩ := h
    subst F1
    subst B1
    refine ev_iconst_0 30 d_mo_room_30 ?_
    refine ev_iret 31 d_mo_room_31 rfl ?_
    exact ⟨_, _, _, rfl, rfl, Or.inl ⟨n_nle (mo_ut hp al + k) 256 c19 (by rw [nI_add]), rfl, rfl, rfl⟩⟩
end
section
/-- the first of the n places from p on that is not in the memory -/
def mo_rg (p : Int32) : Nat → Option Int32
  | 0 => none
  | n + 1 => match mo_rg p n with
    | some q => some q
    | none => if p + nI n < 0 ∨ 255 < p + nI n then some (p + nI n) else none
/-- the bytes from p on, the lowest first -/
def mo_nb (f : Nat → Int32) (i : Nat) (p : Int32) : Nat → Int32
  | 0 => 0
  | n + 1 => mo_nb f i p n ||| (f (256 * nI i + (p + nI n)).toNatClampNeg <<< ((8 * nI n) &&& 31))
/-- n of the bytes were looked at -/
def mo_iv (F : Nat → Int32) (p : Int32) (n : Nat) (Fc : Nat → Int32) : Prop := (mo_rg p n = none ∧ Fc = F) ∨ (∃ q, mo_rg p n = some q ∧ Fc = mo_fl F 1 q)
def mo_bp (F : Nat → Int32) (B : Nat → Nat → Int32) (i p x : Int32) (F1 : Nat → Int32) : Prop := (0 < F 54 ∧ x = 0 ∧ F1 = F) ∨ (¬ 0 < F 54 ∧ (p < 0 ∨ 255 < p) ∧ x = 0 ∧ F1 = mo_fl F 1 p) ∨ (¬ 0 < F 54 ∧ ¬ p < 0 ∧ ¬ 255 < p ∧ x = B 13 (256 * i + p).toNatClampNeg ∧ F1 = F)
theorem mo_fl1 {F : Nat → Int32} (h : F 54 = 0) (c p : Int32) : mo_fl F c p 54 = c := by
  rw [mo_fl, if_pos h]; rfl
theorem mo_iv0 (F : Nat → Int32) (p : Int32) : mo_iv F p 0 F := Or.inl ⟨rfl, rfl⟩
theorem mo_ivs {F Fc F1 : Nat → Int32} {B : Nat → Nat → Int32} {p x i : Int32} {n : Nat} (h0 : F 54 = 0) (hI : mo_iv F p n Fc) (hb : mo_bp Fc B i (p + nI n) x F1) : mo_iv F p (n + 1) F1 ∧ (mo_rg p (n + 1) = none → x = B 13 (256 * i + (p + nI n)).toNatClampNeg) := by
  rcases hI with ⟨hr, rfl⟩ | ⟨q, hr, rfl⟩
  · have n0 : ¬ 0 < Fc 54 := by rw [h0]; decide
    rcases hb with ⟨z, -⟩ | ⟨-, hq, -, rfl⟩ | ⟨-, a, b, hx, rfl⟩
    · exact absurd z n0
    · have e : mo_rg p (n + 1) = some (p + nI n) := by rw [mo_rg, hr]; exact if_pos hq
      exact ⟨Or.inr ⟨_, e, rfl⟩, fun z => by rw [e] at z; cases z⟩
    · have e : mo_rg p (n + 1) = none := by rw [mo_rg, hr]; exact if_neg (fun z => z.elim a b)
      exact ⟨Or.inl ⟨e, rfl⟩, fun _ => hx⟩
  · have e : mo_rg p (n + 1) = some q := by rw [mo_rg, hr]
    have n0 : 0 < mo_fl F 1 q 54 := by rw [mo_fl1 h0]; decide
    rcases hb with ⟨-, -, rfl⟩ | ⟨z, -⟩ | ⟨z, -⟩
    · exact ⟨Or.inr ⟨q, e, rfl⟩, fun z => by rw [e] at z; cases z⟩
    · exact absurd n0 z
    · exact absurd n0 z
theorem mo_ivn {F Fc : Nat → Int32} {p : Int32} {n : Nat} (h0 : F 54 = 0) (hI : mo_iv F p n Fc) (h : Fc 54 ≤ 0) : mo_rg p n = none ∧ Fc = F := by
  rcases hI with h1 | ⟨q, hr, rfl⟩
  · exact h1
  · rw [mo_fl1 h0] at h; exact absurd h (by decide)
theorem mo_ivb {F Fc : Nat → Int32} {p : Int32} {n : Nat} (h0 : F 54 = 0) (hI : mo_iv F p n Fc) (h : ¬ Fc 54 ≤ 0) : ∃ q, mo_rg p n = some q ∧ Fc = mo_fl F 1 q := by
  rcases hI with ⟨-, rfl⟩ | h1
  · rw [h0] at h; exact absurd (by decide) h
  · exact h1
theorem mo_bb {ii : Nat} (hi : ii < 6) (p : Int32) (h1 : ¬ p < 0) (h2 : ¬ 255 < p) : vp_in (256 * nI ii + p) 1536 := by
  obtain ⟨a, ha, rfl⟩ := n_r255 h1 (Int32.not_lt.mp h2)
  rw [n_256, pk_mul, nI_add]
  exact vp_in_nI (by omega) (by decide)
theorem mo_rg_le {p : Int32} {n : Nat} : ∀ k, mo_rg p (n + k) = none → mo_rg p n = none := by
  intro k
  induction k with
  | zero => exact fun h => h
  | succ k ih =>
    intro h
    apply ih
    rw [Nat.add_succ, mo_rg] at h
    cases e : mo_rg p (n + k) with
    | none => rfl
    | some q => rw [e] at h; cases h

theorem mo_rg_up {p q : Int32} {n : Nat} (h : mo_rg p n = some q) : ∀ k, n ≤ k → mo_rg p k = some q := by
  intro k hk
  obtain ⟨j, rfl⟩ : ∃ j, k = n + j := ⟨k - n, by omega⟩
  induction j with
  | zero => exact h
  | succ j ih => rw [Nat.add_succ, mo_rg, ih (by omega)]

set_option maxHeartbeats 4000000 in
set_option maxRecDepth 100000 in
theorem mt_number {l : Launch} {D : va_G} {tl : List (ClassId × FieldType)} {Z : (Nat → Prop) → State → Heap → Prop} {kI kZ : ClassId} {am : Nat → Nat} {F : Nat → Int32} {B : Nat → Nat → Int32} (hZ : ev_Zok Z) (ii : Nat) (p : Int32) (k : Nat) (hii : ii < 6) (hk : k ≤ 100) (h0 : F 54 = 0) : MT (mo_π l D cl_A kI kZ tl Z) m_number 0 0 [.ref (am 60), .int (nI ii), .int p, .int (nI k)] (mo_W mo_ci am kI kZ F B) (mo_qi am kI kZ (fun x F1 B1 => ((mo_rg p k = none ∧ F1 = F ∧ x = mo_nb (B 13) ii p k) ∨ (∃ q, mo_rg p k = some q ∧ F1 = mo_fl F 1 q)) ∧ B1 = B)) := by
  refine mt_of mo_pl rfl (Nat.le_of_ble_eq_true rfl) (ev_eq (lv' := [some (.ref (am 60)), some (.int (nI ii)), some (.int p), some (.int (nI k)), none, none]) ?_)
  have L6 : ∀ (m n : Nat) (Fc : Nat → Int32) (v : Int32), k - n < m → n ≤ k → mo_iv F p n Fc → (mo_rg p n = none → v = mo_nb (B 13) ii p n) → EV (mo_π l D cl_A kI kZ tl Z) m_number (ev_E (mo_π l D cl_A kI kZ tl Z) 0 0 (mo_qi am kI kZ (fun x F1 B1 => ((mo_rg p k = none ∧ F1 = F ∧ x = mo_nb (B 13) ii p k) ∨ (∃ q, mo_rg p k = some q ∧ F1 = mo_fl F 1 q)) ∧ B1 = B))) 0 0 6 [some (.ref (am 60)), some (.int (nI ii)), some (.int p), some (.int (nI k)), some (.int v), some (.int (nI n))] [] (mo_W mo_ci am kI kZ Fc B) := by
    intro m
    induction m with
    | zero => intro n Fc v h; omega
    | succ m ih =>
      intro n Fc v hm hn hI hv
      refine ev_iload_5 6 d_mo_number_6 ?_
      refine ev_iload_3 8 d_mo_number_8 ?_
      refine ev_icmpge 9 45 d_mo_number_9 (fun c9 => ?_) (fun c9 => ?_)
      · refine ev_iload_4 45 d_mo_number_45 ?_
        refine ev_iret 47 d_mo_number_47 rfl ?_
        have h9 := n_le k n c9
        have en : n = k := by omega
        subst n
        rcases hI with ⟨a, b⟩ | ⟨q, a, b⟩
        · exact ⟨_, _, _, rfl, rfl, Or.inl ⟨a, b, hv a⟩, rfl⟩
        · exact ⟨_, _, _, rfl, rfl, Or.inr ⟨q, a, b⟩, rfl⟩
      · have h9 := n_nle k n c9
        refine ev_aload_0 12 d_mo_number_12 ?_
        refine mo_geti 13 54 d_mo_number_13 lk_224 ?_
        refine ev_ifne 16 45 d_mo_number_16 (fun c16 => ?_) (fun c16 => ?_)
        · refine ev_iload_4 45 d_mo_number_45 ?_
          refine ev_iret 47 d_mo_number_47 rfl ?_
          rcases hI with ⟨a, b⟩ | ⟨q, a, b⟩
          · exact absurd (b ▸ h0) c16
          · exact ⟨_, _, _, rfl, rfl, Or.inr ⟨q, mo_rg_up a k (by omega), b⟩, rfl⟩
        · refine ev_iload_4 19 d_mo_number_19 ?_
          refine ev_aload_0 21 d_mo_number_21 ?_
          refine ev_iload_1 22 d_mo_number_22 ?_
          refine ev_iload_2 23 d_mo_number_23 ?_
          refine ev_iload_5 24 d_mo_number_24 ?_
          refine ev_iadd 26 d_mo_number_26 ?_
          refine mo_calli2 27 d_mo_number_27 hZ kc_234 (mt_byteAt hZ (nI ii) _ (mo_bb hii _)) (fun y F1 B1 h => ?_)
          obtain ⟨hb, e2⟩ := h
          subst B1
          have hs := mo_ivs h0 hI hb
          refine ev_bipush (8) 30 d_mo_number_30 (by decide) ?_
          refine ev_iload_5 32 d_mo_number_32 ?_
          refine ev_imul 34 d_mo_number_34 ?_
          refine ev_ishl 35 d_mo_number_35 ?_
          refine ev_ior 36 d_mo_number_36 ?_
          refine ev_istore_4 37 d_mo_number_37 ?_
          refine ev_iinc_5 39 d_mo_number_39 ?_
          refine ev_goto 42 6 d_mo_number_42 ?_
          exact ev_eq (ih (n + 1) F1 (v ||| (y <<< ((8 * nI n) &&& 31))) (by omega) (by omega) hs.1 (fun z => by rw [hs.2 z, hv (mo_rg_le 1 z)]; rfl)) (h1 := by rw [n_i1])
  refine ev_iconst_0 0 d_mo_number_0 ?_
  refine ev_istore_4 1 d_mo_number_1 ?_
  refine ev_iconst_0 3 d_mo_number_3 ?_
  refine ev_istore_5 4 d_mo_number_4 ?_
  exact L6 (k + 1) 0 F 0 (by omega) (by omega) (mo_iv0 F p) (fun _ => rfl)

/-- what reading a plain value of type t at p of instance ii comes to: a trap's code and place, or none -/
def mo_rp (B : Nat → Nat → Int32) (ii tt : Nat) (p : Int32) : Option (Int32 × Int32) := match mo_rg p (B 4 tt).toNatClampNeg with
  | some q => some (1, q)
  | none => if (B 2 tt = 0 ∧ 1 < B 13 (256 * nI ii + p).toNatClampNeg) ∨ (B 2 tt = 7 ∧ ¬ B 13 (256 * nI ii + p).toNatClampNeg < B 3 tt) then some (2, p)
    else if B 2 tt = 5 ∧ (mo_nb (B 13) ii p 4 < 0 ∨ 1114111 < mo_nb (B 13) ii p 4 ∨ (55295 < mo_nb (B 13) ii p 4 ∧ mo_nb (B 13) ii p 4 < 57344)) then some (3, p) else none
def mo_fo (F : Nat → Int32) (r : Option (Int32 × Int32)) : Nat → Int32 := match r with
  | none => F
  | some q => mo_fl F q.1 q.2
theorem n_a0 (x : Int32) : x + nI 0 = x := by
  rw [nI_0]; exact Int32.add_zero x
theorem mo_rp1 {B : Nat → Nat → Int32} {ii tt sz : Nat} {p q : Int32} (hs : B 4 tt = nI sz) (h8 : sz ≤ 8) (h : mo_rg p sz = some q) : mo_rp B ii tt p = some (1, q) := by
  rw [mo_rp, hs, nI_clamp (by omega), h]
theorem mo_rp0 {B : Nat → Nat → Int32} {ii tt sz : Nat} {p : Int32} (hs : B 4 tt = nI sz) (h8 : sz ≤ 8) (h : mo_rg p sz = none) : mo_rp B ii tt p = if (B 2 tt = 0 ∧ 1 < B 13 (256 * nI ii + p).toNatClampNeg) ∨ (B 2 tt = 7 ∧ ¬ B 13 (256 * nI ii + p).toNatClampNeg < B 3 tt) then some (2, p)
    else if B 2 tt = 5 ∧ (mo_nb (B 13) ii p 4 < 0 ∨ 1114111 < mo_nb (B 13) ii p 4 ∨ (55295 < mo_nb (B 13) ii p 4 ∧ mo_nb (B 13) ii p 4 < 57344)) then some (3, p) else none := by
  rw [mo_rp, hs, nI_clamp (by omega), h]

set_option maxHeartbeats 4000000 in
set_option maxRecDepth 100000 in
theorem mt_readPlain {l : Launch} {D : va_G} {tl : List (ClassId × FieldType)} {Z : (Nat → Prop) → State → Heap → Prop} {kI kZ : ClassId} {am : Nat → Nat} {F : Nat → Int32} {B : Nat → Nat → Int32} (hZ : ev_Zok Z) (ii : Nat) (tt : Nat) (p : Int32) (hii : ii < 6) (htt : tt < 32) (h0 : F 54 = 0) (sz : Nat) (hsz : B 4 tt = nI sz) (hs1 : 1 ≤ sz) (hs8 : sz ≤ 8) (hz5 : B 2 tt = 5 → sz = 4) : MT (mo_π l D cl_A kI kZ tl Z) m_readPlain 0 0 [.ref (am 60), .int (nI ii), .int (nI tt), .int p] (mo_W mo_ci am kI kZ F B) (mo_qv am kI kZ (fun F1 B1 => F1 = mo_fo F (mo_rp B ii tt p) ∧ B1 = B)) := by
  refine mt_of mo_pl rfl (Nat.le_of_ble_eq_true rfl) (ev_eq (lv' := [some (.ref (am 60)), some (.int (nI ii)), some (.int (nI tt)), some (.int p), none, none, none]) ?_)
  have L19 : ∀ (m n : Nat) (Fc : Nat → Int32) (fy : Int32), sz - n < m → 1 ≤ n → n ≤ sz → mo_iv F p n Fc → (mo_rg p n = none → fy = B 13 (256 * nI ii + p).toNatClampNeg) → EV (mo_π l D cl_A kI kZ tl Z) m_readPlain (ev_E (mo_π l D cl_A kI kZ tl Z) 0 0 (mo_qv am kI kZ (fun F1 B1 => F1 = mo_fo F (mo_rp B ii tt p) ∧ B1 = B))) 0 0 19 [some (.ref (am 60)), some (.int (nI ii)), some (.int (nI tt)), some (.int p), some (.int (B 2 tt)), some (.int fy), some (.int (nI n))] [] (mo_W mo_ci am kI kZ Fc B) := by
    intro m
    induction m with
    | zero => intro n Fc fy h; omega
    | succ m ih =>
      intro n Fc fy hm hn1 hn hI hfy
      refine ev_iload_6 19 d_mo_readPlain_19 ?_
      refine ev_aload_0 21 d_mo_readPlain_21 ?_
      refine mo_getr 22 2 4 d_mo_readPlain_22 lk_16 ?_
      refine ev_iload_2 25 d_mo_readPlain_25 ?_
      refine mo_aldn (j := tt) 26 2 4 d_mo_readPlain_26 (by exact htt) ?_
      refine ev_icmpge 27 46 d_mo_readPlain_27 (fun c27 => ?_) (fun c27 => ?_)
      · have h27 := n_le sz n c27 hsz
        have en : n = sz := by omega
        subst n
        refine ev_aload_0 46 d_mo_readPlain_46 ?_
        refine mo_geti 47 54 d_mo_readPlain_47 lk_224 ?_
        refine ev_ifle 50 54 d_mo_readPlain_50 (fun c50 => ?_) (fun c50 => ?_)
        · obtain ⟨hr, e1⟩ := mo_ivn h0 hI c50
          subst Fc
          replace hfy := hfy hr
          refine ev_iload_4 54 d_mo_readPlain_54 ?_
          refine ev_ifne 56 65 d_mo_readPlain_56 (fun c56 => ?_) (fun c56 => ?_)
          · refine ev_iload_4 65 d_mo_readPlain_65 ?_
            refine ev_bipush (7) 67 d_mo_readPlain_67 (by decide) ?_
            refine ev_icmpne 69 89 d_mo_readPlain_69 (fun c69 => ?_) (fun c69 => ?_)
            · refine ev_iload_4 89 d_mo_readPlain_89 ?_
              refine ev_iconst_5 91 d_mo_readPlain_91 ?_
              refine ev_icmpne 92 137 d_mo_readPlain_92 (fun c92 => ?_) (fun c92 => ?_)
              · refine ev_vret 137 d_mo_readPlain_137 rfl ?_
                exact ⟨_, _, rfl, rfl, by rw [mo_rp0 hsz hs8 hr, if_neg (fun z => z.elim (fun z => c56 z.1) (fun z => c69 z.1)), if_neg (fun z => c92 z.1)]; rfl, rfl⟩
              · refine ev_aload_0 95 d_mo_readPlain_95 ?_
                refine ev_iload_1 96 d_mo_readPlain_96 ?_
                refine ev_iload_3 97 d_mo_readPlain_97 ?_
                refine ev_iconst_4 98 d_mo_readPlain_98 ?_
                refine mo_calli3 99 d_mo_readPlain_99 hZ kc_240 (mt_number hZ ii p 4 hii (by decide) h0) (fun v F1 B1 h => ?_)
                obtain ⟨hv, e2⟩ := h
                subst B1
                have hs4 : sz = 4 := hz5 c92
                obtain ⟨e1, ev⟩ : F1 = F ∧ v = mo_nb (B 13) ii p 4 := by
                  rcases hv with ⟨-, a, b⟩ | ⟨q, a, -⟩
                  · exact ⟨a, b⟩
                  · rw [hs4] at hr; rw [hr] at a; cases a
                subst F1
                subst v
                refine ev_istore_6 102 d_mo_readPlain_102 ?_
                refine ev_iload_6 104 d_mo_readPlain_104 ?_
                refine ev_iflt 106 131 d_mo_readPlain_106 (fun c106 => ?_) (fun c106 => ?_)
                · refine ev_aload_0 131 d_mo_readPlain_131 ?_
                  refine ev_iconst_3 132 d_mo_readPlain_132 ?_
                  refine ev_iload_3 133 d_mo_readPlain_133 ?_
                  refine mo_callv2 134 d_mo_readPlain_134 hZ kc_230 (mt_fails hZ _ _) (fun F1 B1 h => ?_)
                  obtain ⟨e1, e2⟩ := h
                  subst F1
                  subst B1
                  refine ev_vret 137 d_mo_readPlain_137 rfl ?_
                  exact ⟨_, _, rfl, rfl, by rw [mo_rp0 hsz hs8 hr, if_neg (fun z => z.elim (fun z => c56 z.1) (fun z => c69 z.1)), if_pos ⟨c92, Or.inl c106⟩]; rfl, rfl⟩
                · refine ev_iload_6 109 d_mo_readPlain_109 ?_
                  refine ev_ldc (1114111) 111 d_mo_readPlain_111 kq_254 ?_
                  refine ev_icmpgt 113 131 d_mo_readPlain_113 (fun c113 => ?_) (fun c113 => ?_)
                  · refine ev_aload_0 131 d_mo_readPlain_131 ?_
                    refine ev_iconst_3 132 d_mo_readPlain_132 ?_
                    refine ev_iload_3 133 d_mo_readPlain_133 ?_
                    refine mo_callv2 134 d_mo_readPlain_134 hZ kc_230 (mt_fails hZ _ _) (fun F1 B1 h => ?_)
                    obtain ⟨e1, e2⟩ := h
                    subst F1
                    subst B1
                    refine ev_vret 137 d_mo_readPlain_137 rfl ?_
                    exact ⟨_, _, rfl, rfl, by rw [mo_rp0 hsz hs8 hr, if_neg (fun z => z.elim (fun z => c56 z.1) (fun z => c69 z.1)), if_pos ⟨c92, Or.inr (Or.inl c113)⟩]; rfl, rfl⟩
                  · refine ev_iload_6 116 d_mo_readPlain_116 ?_
                    refine ev_ldc (55295) 118 d_mo_readPlain_118 kq_255 ?_
                    refine ev_icmple 120 137 d_mo_readPlain_120 (fun c120 => ?_) (fun c120 => ?_)
                    · refine ev_vret 137 d_mo_readPlain_137 rfl ?_
                      exact ⟨_, _, rfl, rfl, by rw [mo_rp0 hsz hs8 hr, if_neg (fun z => z.elim (fun z => c56 z.1) (fun z => c69 z.1)), if_neg (fun z => z.2.elim c106 (fun z => z.elim c113 (fun z => absurd c120 (Int32.not_le.mpr z.1))))]; rfl, rfl⟩
                    · refine ev_iload_6 123 d_mo_readPlain_123 ?_
                      refine ev_ldcw (57344) 125 d_mo_readPlain_125 kq_256 ?_
                      refine ev_icmpge 128 137 d_mo_readPlain_128 (fun c128 => ?_) (fun c128 => ?_)
                      · refine ev_vret 137 d_mo_readPlain_137 rfl ?_
                        exact ⟨_, _, rfl, rfl, by rw [mo_rp0 hsz hs8 hr, if_neg (fun z => z.elim (fun z => c56 z.1) (fun z => c69 z.1)), if_neg (fun z => z.2.elim c106 (fun z => z.elim c113 (fun z => absurd c128 (Int32.not_le.mpr z.2))))]; rfl, rfl⟩
                      · refine ev_aload_0 131 d_mo_readPlain_131 ?_
                        refine ev_iconst_3 132 d_mo_readPlain_132 ?_
                        refine ev_iload_3 133 d_mo_readPlain_133 ?_
                        refine mo_callv2 134 d_mo_readPlain_134 hZ kc_230 (mt_fails hZ _ _) (fun F1 B1 h => ?_)
                        obtain ⟨e1, e2⟩ := h
                        subst F1
                        subst B1
                        refine ev_vret 137 d_mo_readPlain_137 rfl ?_
                        exact ⟨_, _, rfl, rfl, by rw [mo_rp0 hsz hs8 hr, if_neg (fun z => z.elim (fun z => c56 z.1) (fun z => c69 z.1)), if_pos ⟨c92, Or.inr (Or.inr ⟨Int32.not_le.mp c120, Int32.not_le.mp c128⟩)⟩]; rfl, rfl⟩
            · refine ev_iload_5 72 d_mo_readPlain_72 ?_
              refine ev_aload_0 74 d_mo_readPlain_74 ?_
              refine mo_getr 75 1 3 d_mo_readPlain_75 lk_13 ?_
              refine ev_iload_2 78 d_mo_readPlain_78 ?_
              refine mo_aldn (j := tt) 79 1 3 d_mo_readPlain_79 (by exact htt) ?_
              refine ev_icmplt 80 89 d_mo_readPlain_80 (fun c80 => ?_) (fun c80 => ?_)
              · refine ev_iload_4 89 d_mo_readPlain_89 ?_
                refine ev_iconst_5 91 d_mo_readPlain_91 ?_
                refine ev_icmpne 92 137 d_mo_readPlain_92 (fun c92 => ?_) (fun c92 => ?_)
                · refine ev_vret 137 d_mo_readPlain_137 rfl ?_
                  exact ⟨_, _, rfl, rfl, by rw [mo_rp0 hsz hs8 hr, if_neg (fun z => z.elim (fun z => c56 z.1) (fun z => z.2 (hfy ▸ c80))), if_neg (fun z => c92 z.1)]; rfl, rfl⟩
                · exact absurd ((show B 2 tt = 7 from c69).symm.trans (show B 2 tt = 5 from c92)) (by decide)
              · refine ev_aload_0 83 d_mo_readPlain_83 ?_
                refine ev_iconst_2 84 d_mo_readPlain_84 ?_
                refine ev_iload_3 85 d_mo_readPlain_85 ?_
                refine mo_callv2 86 d_mo_readPlain_86 hZ kc_230 (mt_fails hZ _ _) (fun F1 B1 h => ?_)
                obtain ⟨e1, e2⟩ := h
                subst F1
                subst B1
                refine ev_iload_4 89 d_mo_readPlain_89 ?_
                refine ev_iconst_5 91 d_mo_readPlain_91 ?_
                refine ev_icmpne 92 137 d_mo_readPlain_92 (fun c92 => ?_) (fun c92 => ?_)
                · refine ev_vret 137 d_mo_readPlain_137 rfl ?_
                  exact ⟨_, _, rfl, rfl, by rw [mo_rp0 hsz hs8 hr, if_pos (Or.inr ⟨c69, hfy ▸ c80⟩)]; rfl, rfl⟩
                · exact absurd ((show B 2 tt = 7 from c69).symm.trans (show B 2 tt = 5 from c92)) (by decide)
          · refine ev_iload_5 59 d_mo_readPlain_59 ?_
            refine ev_iconst_1 61 d_mo_readPlain_61 ?_
            refine ev_icmpgt 62 83 d_mo_readPlain_62 (fun c62 => ?_) (fun c62 => ?_)
            · refine ev_aload_0 83 d_mo_readPlain_83 ?_
              refine ev_iconst_2 84 d_mo_readPlain_84 ?_
              refine ev_iload_3 85 d_mo_readPlain_85 ?_
              refine mo_callv2 86 d_mo_readPlain_86 hZ kc_230 (mt_fails hZ _ _) (fun F1 B1 h => ?_)
              obtain ⟨e1, e2⟩ := h
              subst F1
              subst B1
              refine ev_iload_4 89 d_mo_readPlain_89 ?_
              refine ev_iconst_5 91 d_mo_readPlain_91 ?_
              refine ev_icmpne 92 137 d_mo_readPlain_92 (fun c92 => ?_) (fun c92 => ?_)
              · refine ev_vret 137 d_mo_readPlain_137 rfl ?_
                exact ⟨_, _, rfl, rfl, by rw [mo_rp0 hsz hs8 hr, if_pos (Or.inl ⟨c56, hfy ▸ c62⟩)]; rfl, rfl⟩
              · exact absurd ((show B 2 tt = 0 from c56).symm.trans (show B 2 tt = 5 from c92)) (by decide)
            · refine ev_iload_4 65 d_mo_readPlain_65 ?_
              refine ev_bipush (7) 67 d_mo_readPlain_67 (by decide) ?_
              refine ev_icmpne 69 89 d_mo_readPlain_69 (fun c69 => ?_) (fun c69 => ?_)
              · refine ev_iload_4 89 d_mo_readPlain_89 ?_
                refine ev_iconst_5 91 d_mo_readPlain_91 ?_
                refine ev_icmpne 92 137 d_mo_readPlain_92 (fun c92 => ?_) (fun c92 => ?_)
                · refine ev_vret 137 d_mo_readPlain_137 rfl ?_
                  exact ⟨_, _, rfl, rfl, by rw [mo_rp0 hsz hs8 hr, if_neg (fun z => z.elim (fun z => c62 (hfy ▸ z.2)) (fun z => c69 z.1)), if_neg (fun z => c92 z.1)]; rfl, rfl⟩
                · exact absurd ((show B 2 tt = 0 from c56).symm.trans (show B 2 tt = 5 from c92)) (by decide)
              · exact absurd ((show B 2 tt = 0 from c56).symm.trans (show B 2 tt = 7 from c69)) (by decide)
        · refine ev_vret 53 d_mo_readPlain_53 rfl ?_
          obtain ⟨q, hq, e1⟩ := mo_ivb h0 hI c50
          exact ⟨_, _, rfl, rfl, by rw [mo_rp1 hsz hs8 hq]; exact e1, rfl⟩
      · have h27 := n_nle sz n c27 hsz
        refine ev_aload_0 30 d_mo_readPlain_30 ?_
        refine ev_iload_1 31 d_mo_readPlain_31 ?_
        refine ev_iload_3 32 d_mo_readPlain_32 ?_
        refine ev_iload_6 33 d_mo_readPlain_33 ?_
        refine ev_iadd 35 d_mo_readPlain_35 ?_
        refine mo_calli2 36 d_mo_readPlain_36 hZ kc_234 (mt_byteAt hZ (nI ii) _ (mo_bb hii _)) (fun y F1 B1 h => ?_)
        obtain ⟨hb, e2⟩ := h
        subst B1
        have hs := mo_ivs h0 hI hb
        refine ev_pop_i 39 d_mo_readPlain_39 ?_
        refine ev_iinc_6 40 d_mo_readPlain_40 ?_
        refine ev_goto 43 19 d_mo_readPlain_43 ?_
        exact ev_eq (ih (n + 1) F1 fy (by omega) (by omega) (by omega) hs.1 (fun z => hfy (mo_rg_le 1 z))) (h1 := by rw [n_i1])
  refine ev_aload_0 0 d_mo_readPlain_0 ?_
  refine mo_getr 1 0 2 d_mo_readPlain_1 lk_7 ?_
  refine ev_iload_2 4 d_mo_readPlain_4 ?_
  refine mo_aldn (j := tt) 5 0 2 d_mo_readPlain_5 (by exact htt) ?_
  refine ev_istore_4 6 d_mo_readPlain_6 ?_
  refine ev_aload_0 8 d_mo_readPlain_8 ?_
  refine ev_iload_1 9 d_mo_readPlain_9 ?_
  refine ev_iload_3 10 d_mo_readPlain_10 ?_
  refine mo_calli2 11 d_mo_readPlain_11 hZ kc_234 (mt_byteAt hZ (nI ii) _ (mo_bb hii _)) (fun y F1 B1 h => ?_)
  obtain ⟨hb, e2⟩ := h
  subst B1
  have hs := mo_ivs (n := 0) h0 (mo_iv0 F p) (by rw [n_a0]; exact hb)
  rw [n_a0] at hs
  refine ev_istore_5 14 d_mo_readPlain_14 ?_
  refine ev_iconst_1 16 d_mo_readPlain_16 ?_
  refine ev_istore_6 17 d_mo_readPlain_17 ?_
  exact L19 (sz + 1) 1 F1 y (by omega) (by omega) (by omega) hs.1 hs.2
end
section
theorem mo_ln_c {B B' : Nat → Nat → Int32} (h1 : B 16 = B' 16) (h2 : B 18 = B' 18) (h3 : B 19 = B' 19) (x p : Int32) : ∀ n, mo_ln B x p n = mo_ln B' x p n := by
  intro n
  induction n with
  | zero => rfl
  | succ n ih => rw [mo_ln, mo_ln, ih, h1, h2, h3]
/-- what reading a handle comes to: a trap, or none; the tables behind it -/
def mo_rh (B : Nat → Nat → Int32) (ii tt : Nat) (p : Int32) (it : Nat) : Option (Int32 × Int32) × (Nat → Nat → Int32) :=
  if p < 0 ∨ 255 < p then (some (1, p), B) else
  if ¬ (¬ B 13 (256 * nI ii + p).toNatClampNeg < 1 ∧ ¬ 16 < B 13 (256 * nI ii + p).toNatClampNeg ∧ ¬ B 16 (17 * ii + (B 13 (256 * nI ii + p).toNatClampNeg).toNatClampNeg) = 0 ∧ B 20 (17 * ii + (B 13 (256 * nI ii + p).toNatClampNeg).toNatClampNeg) = 0) then (some (6, p), B) else
  if ¬ B 23 (B 17 (17 * ii + (B 13 (256 * nI ii + p).toNatClampNeg).toNatClampNeg)).toNatClampNeg = B 3 tt then (some (7, p), va_up B 48 (upd (B 48) it (nI (17 * ii + (B 13 (256 * nI ii + p).toNatClampNeg).toNatClampNeg)))) else
  if B 2 tt = 12 then (none, va_up (va_up B 48 (upd (B 48) it (nI (17 * ii + (B 13 (256 * nI ii + p).toNatClampNeg).toNatClampNeg)))) 21 (upd (B 21) (17 * ii + (B 13 (256 * nI ii + p).toNatClampNeg).toNatClampNeg) (B 21 (17 * ii + (B 13 (256 * nI ii + p).toNatClampNeg).toNatClampNeg) + 1))) else
  if B 18 (17 * ii + (B 13 (256 * nI ii + p).toNatClampNeg).toNatClampNeg) = 0 then (some (8, p), va_up B 48 (upd (B 48) it (nI (17 * ii + (B 13 (256 * nI ii + p).toNatClampNeg).toNatClampNeg)))) else
  if ¬ mo_ln B (nI (17 * ii + (B 13 (256 * nI ii + p).toNatClampNeg).toNatClampNeg)) (B 21 (17 * ii + (B 13 (256 * nI ii + p).toNatClampNeg).toNatClampNeg)) 102 ≤ 0 then (some (9, p), va_up B 48 (upd (B 48) it (nI (17 * ii + (B 13 (256 * nI ii + p).toNatClampNeg).toNatClampNeg)))) else
  (none, va_up (va_up B 48 (upd (B 48) it (nI (17 * ii + (B 13 (256 * nI ii + p).toNatClampNeg).toNatClampNeg)))) 20 (upd (B 20) (17 * ii + (B 13 (256 * nI ii + p).toNatClampNeg).toNatClampNeg) 1))
theorem mo_bp0 {F F1 : Nat → Int32} {B : Nat → Nat → Int32} {i p x : Int32} (h0 : F 54 = 0) (hb : mo_bp F B i p x F1) : ((p < 0 ∨ 255 < p) ∧ x = 0 ∧ F1 = mo_fl F 1 p ∧ ¬ F1 54 ≤ 0) ∨ (¬ (p < 0 ∨ 255 < p) ∧ x = B 13 (256 * i + p).toNatClampNeg ∧ F1 = F ∧ F1 54 ≤ 0) := by
  have n0 : ¬ 0 < F 54 := by rw [h0]; decide
  rcases hb with ⟨z, -⟩ | ⟨-, hq, hx, rfl⟩ | ⟨-, a, b, hx, rfl⟩
  · exact absurd z n0
  · exact Or.inl ⟨hq, hx, rfl, by rw [mo_fl1 h0]; decide⟩
  · exact Or.inr ⟨fun z => z.elim a b, hx, rfl, by rw [h0]; decide⟩

set_option maxHeartbeats 4000000 in
set_option maxRecDepth 100000 in
theorem mt_readHandle {l : Launch} {D : va_G} {tl : List (ClassId × FieldType)} {Z : (Nat → Prop) → State → Heap → Prop} {kI kZ : ClassId} {am : Nat → Nat} {F : Nat → Int32} {B : Nat → Nat → Int32} (hZ : ev_Zok Z) (ii : Nat) (tt : Nat) (p : Int32) (it : Nat) (hii : ii < 6) (htt : tt < 32) (hit : it < 200) (h0 : F 54 = 0) (hG : ∀ y, y < 102 → ¬ B 16 y = 0 → vp_in (B 17 y) 1024) : MT (mo_π l D cl_A kI kZ tl Z) m_readHandle 0 0 [.ref (am 60), .int (nI ii), .int (nI tt), .int p, .int (nI it)] (mo_W mo_ci am kI kZ F B) (mo_qv am kI kZ (fun F1 B1 => F1 = mo_fo F (mo_rh B ii tt p it).1 ∧ B1 = (mo_rh B ii tt p it).2)) := by
  refine mt_of mo_pl rfl (Nat.le_of_ble_eq_true rfl) (ev_eq (lv' := [some (.ref (am 60)), some (.int (nI ii)), some (.int (nI tt)), some (.int p), some (.int (nI it)), none, none, none]) ?_)
  refine ev_aload_0 0 d_mo_readHandle_0 ?_
  refine ev_iload_1 1 d_mo_readHandle_1 ?_
  refine ev_iload_3 2 d_mo_readHandle_2 ?_
  refine mo_calli2 3 d_mo_readHandle_3 hZ kc_234 (mt_byteAt hZ (nI ii) _ (mo_bb hii _)) (fun y F1 B1 h => ?_)
  obtain ⟨hb, e2⟩ := h
  subst B1
  have hb := mo_bp0 h0 hb
  refine ev_istore_5 6 d_mo_readHandle_6 ?_
  refine ev_aload_0 8 d_mo_readHandle_8 ?_
  refine mo_geti 9 54 d_mo_readHandle_9 lk_224 ?_
  refine ev_ifle 12 16 d_mo_readHandle_12 (fun c12 => ?_) (fun c12 => ?_)
  · obtain ⟨hr, hy, e1, -⟩ : ¬ (p < 0 ∨ 255 < p) ∧ y = B 13 (256 * nI ii + p).toNatClampNeg ∧ F1 = F ∧ F1 54 ≤ 0 := by
      rcases hb with ⟨-, -, -, z⟩ | h
      · exact absurd c12 z
      · exact h
    subst F1
    refine ev_iload_5 16 d_mo_readHandle_16 ?_
    refine ev_iconst_1 18 d_mo_readHandle_18 ?_
    refine ev_icmplt 19 63 d_mo_readHandle_19 (fun c19 => ?_) (fun c19 => ?_)
    · refine ev_iconst_0 63 d_mo_readHandle_63 ?_
      refine ev_istore_6 64 d_mo_readHandle_64 ?_
      refine ev_iload_6 66 d_mo_readHandle_66 ?_
      refine ev_ifne 68 79 d_mo_readHandle_68 (fun c68 => ?_) (fun c68 => ?_)
      · exact absurd rfl c68
      · refine ev_aload_0 71 d_mo_readHandle_71 ?_
        refine ev_bipush (6) 72 d_mo_readHandle_72 (by decide) ?_
        refine ev_iload_3 74 d_mo_readHandle_74 ?_
        refine mo_callv2 75 d_mo_readHandle_75 hZ kc_230 (mt_fails hZ _ _) (fun F1 B1 h => ?_)
        obtain ⟨e1, e2⟩ := h
        subst F1
        subst B1
        refine ev_vret 78 d_mo_readHandle_78 rfl ?_
        exact ⟨_, _, rfl, rfl, by rw [mo_rh, if_neg hr, ← hy, if_pos (fun z => z.1 c19)]; rfl, by rw [mo_rh, if_neg hr, ← hy, if_pos (fun z => z.1 c19)]⟩
    · refine ev_iload_5 22 d_mo_readHandle_22 ?_
      refine ev_bipush (16) 24 d_mo_readHandle_24 (by decide) ?_
      refine ev_icmpgt 26 63 d_mo_readHandle_26 (fun c26 => ?_) (fun c26 => ?_)
      · refine ev_iconst_0 63 d_mo_readHandle_63 ?_
        refine ev_istore_6 64 d_mo_readHandle_64 ?_
        refine ev_iload_6 66 d_mo_readHandle_66 ?_
        refine ev_ifne 68 79 d_mo_readHandle_68 (fun c68 => ?_) (fun c68 => ?_)
        · exact absurd rfl c68
        · refine ev_aload_0 71 d_mo_readHandle_71 ?_
          refine ev_bipush (6) 72 d_mo_readHandle_72 (by decide) ?_
          refine ev_iload_3 74 d_mo_readHandle_74 ?_
          refine mo_callv2 75 d_mo_readHandle_75 hZ kc_230 (mt_fails hZ _ _) (fun F1 B1 h => ?_)
          obtain ⟨e1, e2⟩ := h
          subst F1
          subst B1
          refine ev_vret 78 d_mo_readHandle_78 rfl ?_
          exact ⟨_, _, rfl, rfl, by rw [mo_rh, if_neg hr, ← hy, if_pos (fun z => z.2.1 c26)]; rfl, by rw [mo_rh, if_neg hr, ← hy, if_pos (fun z => z.2.1 c26)]⟩
      · obtain ⟨jj, hj1, hj2, hjj⟩ := n_rng c19 c26
        subst hjj
        refine ev_aload_0 29 d_mo_readHandle_29 ?_
        refine mo_getr 30 12 16 d_mo_readHandle_30 lk_46 ?_
        refine ev_bipush (17) 33 d_mo_readHandle_33 (by decide) ?_
        refine ev_iload_1 35 d_mo_readHandle_35 ?_
        refine ev_imul 36 d_mo_readHandle_36 ?_
        refine ev_iload_5 37 d_mo_readHandle_37 ?_
        refine ev_iadd 39 d_mo_readHandle_39 ?_
        refine ev_topi (nI (17 * ii + jj)) (by rw [n_17, pk_mul, nI_add]) ?_
        refine mo_zldn (j := 17 * ii + jj) 40 12 16 d_mo_readHandle_40 (by show 17 * ii + jj < 102; omega) ?_
        refine ev_ifeq 41 63 d_mo_readHandle_41 (fun c41 => ?_) (fun c41 => ?_)
        · refine ev_iconst_0 63 d_mo_readHandle_63 ?_
          refine ev_istore_6 64 d_mo_readHandle_64 ?_
          refine ev_iload_6 66 d_mo_readHandle_66 ?_
          refine ev_ifne 68 79 d_mo_readHandle_68 (fun c68 => ?_) (fun c68 => ?_)
          · exact absurd rfl c68
          · refine ev_aload_0 71 d_mo_readHandle_71 ?_
            refine ev_bipush (6) 72 d_mo_readHandle_72 (by decide) ?_
            refine ev_iload_3 74 d_mo_readHandle_74 ?_
            refine mo_callv2 75 d_mo_readHandle_75 hZ kc_230 (mt_fails hZ _ _) (fun F1 B1 h => ?_)
            obtain ⟨e1, e2⟩ := h
            subst F1
            subst B1
            refine ev_vret 78 d_mo_readHandle_78 rfl ?_
            exact ⟨_, _, rfl, rfl, by rw [mo_rh, if_neg hr, ← hy, if_pos (fun z => z.2.2.1 (by rw [nI_clamp (by omega)]; exact c41))]; rfl, by rw [mo_rh, if_neg hr, ← hy, if_pos (fun z => z.2.2.1 (by rw [nI_clamp (by omega)]; exact c41))]⟩
        · refine ev_aload_0 44 d_mo_readHandle_44 ?_
          refine mo_getr 45 16 20 d_mo_readHandle_45 lk_59 ?_
          refine ev_bipush (17) 48 d_mo_readHandle_48 (by decide) ?_
          refine ev_iload_1 50 d_mo_readHandle_50 ?_
          refine ev_imul 51 d_mo_readHandle_51 ?_
          refine ev_iload_5 52 d_mo_readHandle_52 ?_
          refine ev_iadd 54 d_mo_readHandle_54 ?_
          refine ev_topi (nI (17 * ii + jj)) (by rw [n_17, pk_mul, nI_add]) ?_
          refine mo_zldn (j := 17 * ii + jj) 55 16 20 d_mo_readHandle_55 (by show 17 * ii + jj < 102; omega) ?_
          refine ev_ifne 56 63 d_mo_readHandle_56 (fun c56 => ?_) (fun c56 => ?_)
          · refine ev_iconst_0 63 d_mo_readHandle_63 ?_
            refine ev_istore_6 64 d_mo_readHandle_64 ?_
            refine ev_iload_6 66 d_mo_readHandle_66 ?_
            refine ev_ifne 68 79 d_mo_readHandle_68 (fun c68 => ?_) (fun c68 => ?_)
            · exact absurd rfl c68
            · refine ev_aload_0 71 d_mo_readHandle_71 ?_
              refine ev_bipush (6) 72 d_mo_readHandle_72 (by decide) ?_
              refine ev_iload_3 74 d_mo_readHandle_74 ?_
              refine mo_callv2 75 d_mo_readHandle_75 hZ kc_230 (mt_fails hZ _ _) (fun F1 B1 h => ?_)
              obtain ⟨e1, e2⟩ := h
              subst F1
              subst B1
              refine ev_vret 78 d_mo_readHandle_78 rfl ?_
              exact ⟨_, _, rfl, rfl, by rw [mo_rh, if_neg hr, ← hy, if_pos (fun z => c56 (by have q := z.2.2.2; rw [nI_clamp (by omega)] at q; exact q))]; rfl, by rw [mo_rh, if_neg hr, ← hy, if_pos (fun z => c56 (by have q := z.2.2.2; rw [nI_clamp (by omega)] at q; exact q))]⟩
          · refine ev_iconst_1 59 d_mo_readHandle_59 ?_
            refine ev_goto 60 64 d_mo_readHandle_60 ?_
            refine ev_istore_6 64 d_mo_readHandle_64 ?_
            refine ev_iload_6 66 d_mo_readHandle_66 ?_
            refine ev_ifne 68 79 d_mo_readHandle_68 (fun c68 => ?_) (fun c68 => ?_)
            · refine ev_bipush (17) 79 d_mo_readHandle_79 (by decide) ?_
              refine ev_iload_1 81 d_mo_readHandle_81 ?_
              refine ev_imul 82 d_mo_readHandle_82 ?_
              refine ev_iload_5 83 d_mo_readHandle_83 ?_
              refine ev_iadd 85 d_mo_readHandle_85 ?_
              refine ev_topi (nI (17 * ii + jj)) (by rw [n_17, pk_mul, nI_add]) ?_
              refine ev_istore_7 86 d_mo_readHandle_86 ?_
              refine ev_aload_0 88 d_mo_readHandle_88 ?_
              refine mo_getr 89 36 48 d_mo_readHandle_89 lk_123 ?_
              refine ev_iload_4 92 d_mo_readHandle_92 ?_
              refine ev_iload_7 94 d_mo_readHandle_94 ?_
              refine mo_astn (j := it) 96 36 48 d_mo_readHandle_96 (by exact hit) ?_
              refine ev_aload_0 97 d_mo_readHandle_97 ?_
              refine mo_getr 98 18 23 d_mo_readHandle_98 lk_65 ?_
              refine ev_aload_0 101 d_mo_readHandle_101 ?_
              refine mo_getr 102 13 17 d_mo_readHandle_102 lk_50 ?_
              refine ev_iload_7 105 d_mo_readHandle_105 ?_
              refine mo_aldn (j := 17 * ii + jj) 107 13 17 d_mo_readHandle_107 (by show 17 * ii + jj < 102; omega) ?_
              refine mo_ald 108 18 23 d_mo_readHandle_108 (by exact hG (17 * ii + jj) (by omega) c41) ?_
              refine ev_aload_0 109 d_mo_readHandle_109 ?_
              refine mo_getr 110 1 3 d_mo_readHandle_110 lk_13 ?_
              refine ev_iload_2 113 d_mo_readHandle_113 ?_
              refine mo_aldn (j := tt) 114 1 3 d_mo_readHandle_114 (by exact htt) ?_
              refine ev_icmpeq 115 128 d_mo_readHandle_115 (fun c115 => ?_) (fun c115 => ?_)
              · replace c115 : B 23 (B 17 (17 * ii + jj)).toNatClampNeg = B 3 tt := c115
                refine ev_aload_0 128 d_mo_readHandle_128 ?_
                refine mo_getr 129 0 2 d_mo_readHandle_129 lk_7 ?_
                refine ev_iload_2 132 d_mo_readHandle_132 ?_
                refine mo_aldn (j := tt) 133 0 2 d_mo_readHandle_133 (by exact htt) ?_
                refine ev_bipush (12) 134 d_mo_readHandle_134 (by decide) ?_
                refine ev_icmpne 136 153 d_mo_readHandle_136 (fun c136 => ?_) (fun c136 => ?_)
                · replace c136 : ¬ B 2 tt = 12 := c136
                  refine ev_aload_0 153 d_mo_readHandle_153 ?_
                  refine mo_getr 154 14 18 d_mo_readHandle_154 lk_53 ?_
                  refine ev_iload_7 157 d_mo_readHandle_157 ?_
                  refine mo_zldn (j := 17 * ii + jj) 159 14 18 d_mo_readHandle_159 (by show 17 * ii + jj < 102; omega) ?_
                  refine ev_ifne 160 173 d_mo_readHandle_160 (fun c160 => ?_) (fun c160 => ?_)
                  · replace c160 : ¬ B 18 (17 * ii + jj) = 0 := c160
                    refine ev_aload_0 173 d_mo_readHandle_173 ?_
                    refine ev_iload_7 174 d_mo_readHandle_174 ?_
                    refine mo_calli1 176 d_mo_readHandle_176 hZ kc_221 (mt_loans hZ (17 * ii + jj) (by show 17 * ii + jj < 102; omega)) (fun u F1 B1 h => ?_)
                    obtain ⟨hu, e1, e2⟩ := h
                    subst F1
                    subst B1
                    have hln : u = mo_ln B (nI (17 * ii + jj)) (B 21 (17 * ii + jj)) 102 := hu.trans (mo_ln_c rfl rfl rfl _ _ 102)
                    refine ev_ifle 179 192 d_mo_readHandle_179 (fun c179 => ?_) (fun c179 => ?_)
                    · refine ev_aload_0 192 d_mo_readHandle_192 ?_
                      refine mo_getr 193 16 20 d_mo_readHandle_193 lk_59 ?_
                      refine ev_iload_7 196 d_mo_readHandle_196 ?_
                      refine ev_iconst_1 198 d_mo_readHandle_198 ?_
                      refine mo_zstn (j := 17 * ii + jj) 199 16 20 d_mo_readHandle_199 (by show 17 * ii + jj < 102; omega) (by exact Or.inr rfl) ?_
                      refine ev_vret 200 d_mo_readHandle_200 rfl ?_
                      exact ⟨_, _, rfl, rfl, by rw [mo_rh, if_neg hr, ← hy, nI_clamp (show jj < 2 ^ 31 by omega), if_neg (fun z => z ⟨c19, c26, c41, c56⟩), if_neg (fun z => z c115), if_neg c136, if_neg c160, if_neg (fun z => z (hln ▸ c179))] <;> rfl, by rw [mo_rh, if_neg hr, ← hy, nI_clamp (show jj < 2 ^ 31 by omega), if_neg (fun z => z ⟨c19, c26, c41, c56⟩), if_neg (fun z => z c115), if_neg c136, if_neg c160, if_neg (fun z => z (hln ▸ c179))] <;> rfl⟩
                    · refine ev_aload_0 182 d_mo_readHandle_182 ?_
                      refine ev_bipush (9) 183 d_mo_readHandle_183 (by decide) ?_
                      refine ev_iload_3 185 d_mo_readHandle_185 ?_
                      refine mo_callv2 186 d_mo_readHandle_186 hZ kc_230 (mt_fails hZ _ _) (fun F1 B1 h => ?_)
                      obtain ⟨e1, e2⟩ := h
                      subst F1
                      subst B1
                      refine ev_goto 189 200 d_mo_readHandle_189 ?_
                      refine ev_vret 200 d_mo_readHandle_200 rfl ?_
                      exact ⟨_, _, rfl, rfl, by rw [mo_rh, if_neg hr, ← hy, nI_clamp (show jj < 2 ^ 31 by omega), if_neg (fun z => z ⟨c19, c26, c41, c56⟩), if_neg (fun z => z c115), if_neg c136, if_neg c160, if_pos (hln ▸ c179)] <;> rfl, by rw [mo_rh, if_neg hr, ← hy, nI_clamp (show jj < 2 ^ 31 by omega), if_neg (fun z => z ⟨c19, c26, c41, c56⟩), if_neg (fun z => z c115), if_neg c136, if_neg c160, if_pos (hln ▸ c179)] <;> rfl⟩
                  · replace c160 : B 18 (17 * ii + jj) = 0 := c160
                    refine ev_aload_0 163 d_mo_readHandle_163 ?_
                    refine ev_bipush (8) 164 d_mo_readHandle_164 (by decide) ?_
                    refine ev_iload_3 166 d_mo_readHandle_166 ?_
                    refine mo_callv2 167 d_mo_readHandle_167 hZ kc_230 (mt_fails hZ _ _) (fun F1 B1 h => ?_)
                    obtain ⟨e1, e2⟩ := h
                    subst F1
                    subst B1
                    refine ev_goto 170 200 d_mo_readHandle_170 ?_
                    refine ev_vret 200 d_mo_readHandle_200 rfl ?_
                    exact ⟨_, _, rfl, rfl, by rw [mo_rh, if_neg hr, ← hy, nI_clamp (show jj < 2 ^ 31 by omega), if_neg (fun z => z ⟨c19, c26, c41, c56⟩), if_neg (fun z => z c115), if_neg c136, if_pos c160] <;> rfl, by rw [mo_rh, if_neg hr, ← hy, nI_clamp (show jj < 2 ^ 31 by omega), if_neg (fun z => z ⟨c19, c26, c41, c56⟩), if_neg (fun z => z c115), if_neg c136, if_pos c160] <;> rfl⟩
                · replace c136 : B 2 tt = 12 := c136
                  refine ev_aload_0 139 d_mo_readHandle_139 ?_
                  refine mo_getr 140 17 21 d_mo_readHandle_140 lk_62 ?_
                  refine ev_iload_7 143 d_mo_readHandle_143 ?_
                  refine ev_dup2 145 d_mo_readHandle_145 ?_
                  refine mo_aldn (j := 17 * ii + jj) 146 17 21 d_mo_readHandle_146 (by show 17 * ii + jj < 102; omega) ?_
                  refine ev_iconst_1 147 d_mo_readHandle_147 ?_
                  refine ev_iadd 148 d_mo_readHandle_148 ?_
                  refine mo_astn (j := 17 * ii + jj) 149 17 21 d_mo_readHandle_149 (by show 17 * ii + jj < 102; omega) ?_
                  refine ev_goto 150 200 d_mo_readHandle_150 ?_
                  refine ev_vret 200 d_mo_readHandle_200 rfl ?_
                  exact ⟨_, _, rfl, rfl, by rw [mo_rh, if_neg hr, ← hy, nI_clamp (show jj < 2 ^ 31 by omega), if_neg (fun z => z ⟨c19, c26, c41, c56⟩), if_neg (fun z => z c115), if_pos c136] <;> rfl, by rw [mo_rh, if_neg hr, ← hy, nI_clamp (show jj < 2 ^ 31 by omega), if_neg (fun z => z ⟨c19, c26, c41, c56⟩), if_neg (fun z => z c115), if_pos c136] <;> rfl⟩
              · replace c115 : ¬ B 23 (B 17 (17 * ii + jj)).toNatClampNeg = B 3 tt := c115
                refine ev_aload_0 118 d_mo_readHandle_118 ?_
                refine ev_bipush (7) 119 d_mo_readHandle_119 (by decide) ?_
                refine ev_iload_3 121 d_mo_readHandle_121 ?_
                refine mo_callv2 122 d_mo_readHandle_122 hZ kc_230 (mt_fails hZ _ _) (fun F1 B1 h => ?_)
                obtain ⟨e1, e2⟩ := h
                subst F1
                subst B1
                refine ev_goto 125 200 d_mo_readHandle_125 ?_
                refine ev_vret 200 d_mo_readHandle_200 rfl ?_
                exact ⟨_, _, rfl, rfl, by rw [mo_rh, if_neg hr, ← hy, nI_clamp (show jj < 2 ^ 31 by omega), if_neg (fun z => z ⟨c19, c26, c41, c56⟩), if_pos c115] <;> rfl, by rw [mo_rh, if_neg hr, ← hy, nI_clamp (show jj < 2 ^ 31 by omega), if_neg (fun z => z ⟨c19, c26, c41, c56⟩), if_pos c115] <;> rfl⟩
            · exact absurd c68 (by decide)
  · refine ev_vret 15 d_mo_readHandle_15 rfl ?_
    rcases hb with ⟨a, -, b, -⟩ | ⟨-, -, -, z⟩
    · exact ⟨_, _, rfl, rfl, by rw [mo_rh, if_pos a]; exact b, by rw [mo_rh, if_pos a]⟩
    · exact absurd z c12

/-- a handle is written: a trap's code and place or none, the numbers, the tables -/
def mo_wh (F : Nat → Int32) (B : Nat → Nat → Int32) (J it : Nat) : (Nat → Int32) × (Nat → Nat → Int32) :=
  if mo_fh (B 16) (17 * J) 16 = 0 then (mo_fl F 12 (B 45 it), B) else
  (upd F 52 (F 52 + 1), va_up (va_up (va_up (va_up (va_up (va_up B 16 (upd (B 16) (17 * J + mo_fh (B 16) (17 * J) 16) 1)) 18 (upd (B 18) (17 * J + mo_fh (B 16) (17 * J) 16) (if B 2 (B 44 it).toNatClampNeg = 11 then 1 else 0))) 17 (upd (B 17) (17 * J + mo_fh (B 16) (17 * J) 16) (B 17 (B 48 it).toNatClampNeg))) 19 (upd (B 19) (17 * J + mo_fh (B 16) (17 * J) 16) (B 48 it))) 53 (upd (B 53) (F 52).toNatClampNeg (nI (17 * J + mo_fh (B 16) (17 * J) 16)))) 13 (mo_pb (B 13) (256 * J + (B 50 it).toNatClampNeg) (nI (mo_fh (B 16) (17 * J) 16)) 1))

set_option maxHeartbeats 4000000 in
set_option maxRecDepth 100000 in
theorem mt_writeHandle {l : Launch} {D : va_G} {tl : List (ClassId × FieldType)} {Z : (Nat → Prop) → State → Heap → Prop} {kI kZ : ClassId} {am : Nat → Nat} {F : Nat → Int32} {B : Nat → Nat → Int32} (hZ : ev_Zok Z) (J : Nat) (it : Nat) (hJ : J < 6) (hit : it < 200) (hu : vp_in (B 44 it) 32) (hf : vp_in (B 48 it) 102) (to : Nat) (hto : B 50 it = nI to) (hto2 : to + 1 ≤ 256) (hfr : vp_in (F 52) 16) : MT (mo_π l D cl_A kI kZ tl Z) m_writeHandle 0 0 [.ref (am 60), .int (nI J), .int (nI it)] (mo_W mo_ci am kI kZ F B) (mo_qv am kI kZ (fun F1 B1 => F1 = (mo_wh F B J it).1 ∧ B1 = (mo_wh F B J it).2)) := by
  refine mt_of mo_pl rfl (Nat.le_of_ble_eq_true rfl) (ev_eq (lv' := [some (.ref (am 60)), some (.int (nI J)), some (.int (nI it)), none, none]) ?_)
  refine ev_aload_0 0 d_mo_writeHandle_0 ?_
  refine ev_iload_1 1 d_mo_writeHandle_1 ?_
  refine mo_calli1 2 d_mo_writeHandle_2 hZ kc_215 (mt_freeHandle hZ J hJ) (fun y F1 B1 h => ?_)
  obtain ⟨rfl, e1, e2⟩ := h
  subst F1
  subst B1
  refine ev_istore_3 5 d_mo_writeHandle_5 ?_
  refine ev_iload_3 6 d_mo_writeHandle_6 ?_
  refine ev_ifne 7 23 d_mo_writeHandle_7 (fun c7 => ?_) (fun c7 => ?_)
  · refine ev_bipush (17) 23 d_mo_writeHandle_23 (by decide) ?_
    refine ev_iload_1 25 d_mo_writeHandle_25 ?_
    refine ev_imul 26 d_mo_writeHandle_26 ?_
    refine ev_iload_3 27 d_mo_writeHandle_27 ?_
    refine ev_iadd 28 d_mo_writeHandle_28 ?_
    refine ev_topi (nI (17 * J + mo_fh (B 16) (17 * J) 16)) (by rw [n_17, pk_mul, nI_add]) ?_
    refine ev_istore_4 29 d_mo_writeHandle_29 ?_
    refine ev_aload_0 31 d_mo_writeHandle_31 ?_
    refine mo_getr 32 12 16 d_mo_writeHandle_32 lk_46 ?_
    refine ev_iload_4 35 d_mo_writeHandle_35 ?_
    refine ev_iconst_1 37 d_mo_writeHandle_37 ?_
    refine mo_zstn (j := 17 * J + mo_fh (B 16) (17 * J) 16) 38 12 16 d_mo_writeHandle_38 (by have := mo_fh_le (B 16) (17 * J) 16; show 17 * J + mo_fh (B 16) (17 * J) 16 < 102; omega) (by exact Or.inr rfl) ?_
    refine ev_aload_0 39 d_mo_writeHandle_39 ?_
    refine mo_getr 40 14 18 d_mo_writeHandle_40 lk_53 ?_
    refine ev_iload_4 43 d_mo_writeHandle_43 ?_
    refine ev_aload_0 45 d_mo_writeHandle_45 ?_
    refine mo_getr 46 0 2 d_mo_writeHandle_46 lk_7 ?_
    refine ev_aload_0 49 d_mo_writeHandle_49 ?_
    refine mo_getr 50 32 44 d_mo_writeHandle_50 lk_111 ?_
    refine ev_iload_2 53 d_mo_writeHandle_53 ?_
    refine mo_aldn (j := it) 54 32 44 d_mo_writeHandle_54 (by exact hit) ?_
    refine mo_ald 55 0 2 d_mo_writeHandle_55 (by exact hu) ?_
    refine ev_bipush (11) 56 d_mo_writeHandle_56 (by decide) ?_
    refine ev_icmpne 58 65 d_mo_writeHandle_58 (fun c58 => ?_) (fun c58 => ?_)
    · replace c58 : ¬ B 2 (B 44 it).toNatClampNeg = 11 := c58
      refine ev_iconst_0 65 d_mo_writeHandle_65 ?_
      refine mo_zstn (j := 17 * J + mo_fh (B 16) (17 * J) 16) 66 14 18 d_mo_writeHandle_66 (by have := mo_fh_le (B 16) (17 * J) 16; show 17 * J + mo_fh (B 16) (17 * J) 16 < 102; omega) (by first | exact Or.inl rfl | exact Or.inr rfl) ?_
      refine ev_aload_0 67 d_mo_writeHandle_67 ?_
      refine mo_getr 68 13 17 d_mo_writeHandle_68 lk_50 ?_
      refine ev_iload_4 71 d_mo_writeHandle_71 ?_
      refine ev_aload_0 73 d_mo_writeHandle_73 ?_
      refine mo_getr 74 13 17 d_mo_writeHandle_74 lk_50 ?_
      refine ev_aload_0 77 d_mo_writeHandle_77 ?_
      refine mo_getr 78 36 48 d_mo_writeHandle_78 lk_123 ?_
      refine ev_iload_2 81 d_mo_writeHandle_81 ?_
      refine mo_aldn (j := it) 82 36 48 d_mo_writeHandle_82 (by exact hit) ?_
      refine mo_ald 83 13 17 d_mo_writeHandle_83 (by exact hf) ?_
      refine mo_astn (j := 17 * J + mo_fh (B 16) (17 * J) 16) 84 13 17 d_mo_writeHandle_84 (by have := mo_fh_le (B 16) (17 * J) 16; show 17 * J + mo_fh (B 16) (17 * J) 16 < 102; omega) ?_
      refine ev_aload_0 85 d_mo_writeHandle_85 ?_
      refine mo_getr 86 15 19 d_mo_writeHandle_86 lk_56 ?_
      refine ev_iload_4 89 d_mo_writeHandle_89 ?_
      refine ev_aload_0 91 d_mo_writeHandle_91 ?_
      refine mo_getr 92 36 48 d_mo_writeHandle_92 lk_123 ?_
      refine ev_iload_2 95 d_mo_writeHandle_95 ?_
      refine mo_aldn (j := it) 96 36 48 d_mo_writeHandle_96 (by exact hit) ?_
      refine mo_astn (j := 17 * J + mo_fh (B 16) (17 * J) 16) 97 15 19 d_mo_writeHandle_97 (by have := mo_fh_le (B 16) (17 * J) 16; show 17 * J + mo_fh (B 16) (17 * J) 16 < 102; omega) ?_
      refine ev_aload_0 98 d_mo_writeHandle_98 ?_
      refine mo_getr 99 40 53 d_mo_writeHandle_99 lk_135 ?_
      refine ev_aload_0 102 d_mo_writeHandle_102 ?_
      refine mo_geti 103 52 d_mo_writeHandle_103 lk_260 ?_
      refine ev_iload_4 106 d_mo_writeHandle_106 ?_
      refine mo_ast 108 40 53 d_mo_writeHandle_108 (by exact hfr) ?_
      refine ev_aload_0 109 d_mo_writeHandle_109 ?_
      refine ev_dup_a 110 d_mo_writeHandle_110 ?_
      refine mo_geti 111 52 d_mo_writeHandle_111 lk_260 ?_
      refine ev_iconst_1 114 d_mo_writeHandle_114 ?_
      refine ev_iadd 115 d_mo_writeHandle_115 ?_
      refine mo_puti 116 52 d_mo_writeHandle_116 lp_260 ?_
      refine ev_aload_0 119 d_mo_writeHandle_119 ?_
      refine ev_iload_1 120 d_mo_writeHandle_120 ?_
      refine ev_aload_0 121 d_mo_writeHandle_121 ?_
      refine mo_getr 122 38 50 d_mo_writeHandle_122 lk_129 ?_
      refine ev_iload_2 125 d_mo_writeHandle_125 ?_
      refine mo_aldn (j := it) 126 38 50 d_mo_writeHandle_126 (by exact hit) ?_
      refine ev_topi (nI to) hto ?_
      refine ev_iconst_1 127 d_mo_writeHandle_127 ?_
      refine ev_iload_3 128 d_mo_writeHandle_128 ?_
      refine mo_callv4 129 d_mo_writeHandle_129 hZ kc_263 (mt_put hZ J to 1 (nI (mo_fh (B 16) (17 * J) 16)) hJ hto2) (fun F1 B1 h => ?_)
      obtain ⟨e1, e2⟩ := h
      subst F1
      subst B1
      refine ev_vret 132 d_mo_writeHandle_132 rfl ?_
      have hz : ¬ mo_fh (B 16) (17 * J) 16 = 0 := fun z => c7 (by rw [z]; rfl)
      exact ⟨_, _, rfl, rfl, by rw [mo_wh, if_neg hz], by rw [mo_wh, if_neg hz, if_neg c58, hto, nI_clamp (by omega)]; rfl⟩
    · replace c58 : B 2 (B 44 it).toNatClampNeg = 11 := c58
      refine ev_iconst_1 61 d_mo_writeHandle_61 ?_
      refine ev_goto 62 66 d_mo_writeHandle_62 ?_
      refine mo_zstn (j := 17 * J + mo_fh (B 16) (17 * J) 16) 66 14 18 d_mo_writeHandle_66 (by have := mo_fh_le (B 16) (17 * J) 16; show 17 * J + mo_fh (B 16) (17 * J) 16 < 102; omega) (by first | exact Or.inl rfl | exact Or.inr rfl) ?_
      refine ev_aload_0 67 d_mo_writeHandle_67 ?_
      refine mo_getr 68 13 17 d_mo_writeHandle_68 lk_50 ?_
      refine ev_iload_4 71 d_mo_writeHandle_71 ?_
      refine ev_aload_0 73 d_mo_writeHandle_73 ?_
      refine mo_getr 74 13 17 d_mo_writeHandle_74 lk_50 ?_
      refine ev_aload_0 77 d_mo_writeHandle_77 ?_
      refine mo_getr 78 36 48 d_mo_writeHandle_78 lk_123 ?_
      refine ev_iload_2 81 d_mo_writeHandle_81 ?_
      refine mo_aldn (j := it) 82 36 48 d_mo_writeHandle_82 (by exact hit) ?_
      refine mo_ald 83 13 17 d_mo_writeHandle_83 (by exact hf) ?_
      refine mo_astn (j := 17 * J + mo_fh (B 16) (17 * J) 16) 84 13 17 d_mo_writeHandle_84 (by have := mo_fh_le (B 16) (17 * J) 16; show 17 * J + mo_fh (B 16) (17 * J) 16 < 102; omega) ?_
      refine ev_aload_0 85 d_mo_writeHandle_85 ?_
      refine mo_getr 86 15 19 d_mo_writeHandle_86 lk_56 ?_
      refine ev_iload_4 89 d_mo_writeHandle_89 ?_
      refine ev_aload_0 91 d_mo_writeHandle_91 ?_
      refine mo_getr 92 36 48 d_mo_writeHandle_92 lk_123 ?_
      refine ev_iload_2 95 d_mo_writeHandle_95 ?_
      refine mo_aldn (j := it) 96 36 48 d_mo_writeHandle_96 (by exact hit) ?_
      refine mo_astn (j := 17 * J + mo_fh (B 16) (17 * J) 16) 97 15 19 d_mo_writeHandle_97 (by have := mo_fh_le (B 16) (17 * J) 16; show 17 * J + mo_fh (B 16) (17 * J) 16 < 102; omega) ?_
      refine ev_aload_0 98 d_mo_writeHandle_98 ?_
      refine mo_getr 99 40 53 d_mo_writeHandle_99 lk_135 ?_
      refine ev_aload_0 102 d_mo_writeHandle_102 ?_
      refine mo_geti 103 52 d_mo_writeHandle_103 lk_260 ?_
      refine ev_iload_4 106 d_mo_writeHandle_106 ?_
      refine mo_ast 108 40 53 d_mo_writeHandle_108 (by exact hfr) ?_
      refine ev_aload_0 109 d_mo_writeHandle_109 ?_
      refine ev_dup_a 110 d_mo_writeHandle_110 ?_
      refine mo_geti 111 52 d_mo_writeHandle_111 lk_260 ?_
      refine ev_iconst_1 114 d_mo_writeHandle_114 ?_
      refine ev_iadd 115 d_mo_writeHandle_115 ?_
      refine mo_puti 116 52 d_mo_writeHandle_116 lp_260 ?_
      refine ev_aload_0 119 d_mo_writeHandle_119 ?_
      refine ev_iload_1 120 d_mo_writeHandle_120 ?_
      refine ev_aload_0 121 d_mo_writeHandle_121 ?_
      refine mo_getr 122 38 50 d_mo_writeHandle_122 lk_129 ?_
      refine ev_iload_2 125 d_mo_writeHandle_125 ?_
      refine mo_aldn (j := it) 126 38 50 d_mo_writeHandle_126 (by exact hit) ?_
      refine ev_topi (nI to) hto ?_
      refine ev_iconst_1 127 d_mo_writeHandle_127 ?_
      refine ev_iload_3 128 d_mo_writeHandle_128 ?_
      refine mo_callv4 129 d_mo_writeHandle_129 hZ kc_263 (mt_put hZ J to 1 (nI (mo_fh (B 16) (17 * J) 16)) hJ hto2) (fun F1 B1 h => ?_)
      obtain ⟨e1, e2⟩ := h
      subst F1
      subst B1
      refine ev_vret 132 d_mo_writeHandle_132 rfl ?_
      have hz : ¬ mo_fh (B 16) (17 * J) 16 = 0 := fun z => c7 (by rw [z]; rfl)
      exact ⟨_, _, rfl, rfl, by rw [mo_wh, if_neg hz], by rw [mo_wh, if_neg hz, if_pos c58, hto, nI_clamp (by omega)]; rfl⟩
  · refine ev_aload_0 10 d_mo_writeHandle_10 ?_
    refine ev_bipush (12) 11 d_mo_writeHandle_11 (by decide) ?_
    refine ev_aload_0 13 d_mo_writeHandle_13 ?_
    refine mo_getr 14 33 45 d_mo_writeHandle_14 lk_114 ?_
    refine ev_iload_2 17 d_mo_writeHandle_17 ?_
    refine mo_aldn (j := it) 18 33 45 d_mo_writeHandle_18 (by exact hit) ?_
    refine mo_callv2 19 d_mo_writeHandle_19 hZ kc_230 (mt_fails hZ _ _) (fun F1 B1 h => ?_)
    obtain ⟨e1, e2⟩ := h
    subst F1
    subst B1
    refine ev_vret 22 d_mo_writeHandle_22 rfl ?_
    have hz := (n_z (by have := mo_fh_le (B 16) (17 * J) 16; omega)).mp c7
    exact ⟨_, _, rfl, rfl, by rw [mo_wh, if_pos hz], by rw [mo_wh, if_pos hz]⟩
end
section
theorem d_mo_readText_0 : decode c_mo_readText 0 = .ok (.iconst 0, 1) := by decide +kernel
theorem d_mo_readText_1 : decode c_mo_readText 1 = .ok (.istore 4, 2) := by decide +kernel
theorem d_mo_readText_3 : decode c_mo_readText 3 = .ok (.iload 4, 2) := by decide +kernel
theorem d_mo_readText_5 : decode c_mo_readText 5 = .ok (.iload_n 3, 1) := by decide +kernel
theorem d_mo_readText_6 : decode c_mo_readText 6 = .ok (.if_icmp .ge 293, 3) := by decide +kernel
theorem d_mo_readText_9 : decode c_mo_readText 9 = .ok (.aload_n 0, 1) := by decide +kernel
theorem d_mo_readText_10 : decode c_mo_readText 10 = .ok (.getfield 224, 3) := by decide +kernel
theorem d_mo_readText_13 : decode c_mo_readText 13 = .ok (.ifCond .ne 286, 3) := by decide +kernel
theorem d_mo_readText_16 : decode c_mo_readText 16 = .ok (.aload_n 0, 1) := by decide +kernel
theorem d_mo_readText_17 : decode c_mo_readText 17 = .ok (.iload_n 1, 1) := by decide +kernel
theorem d_mo_readText_18 : decode c_mo_readText 18 = .ok (.iload_n 2, 1) := by decide +kernel
theorem d_mo_readText_19 : decode c_mo_readText 19 = .ok (.iload 4, 2) := by decide +kernel
theorem d_mo_readText_21 : decode c_mo_readText 21 = .ok (.iadd, 1) := by decide +kernel
theorem d_mo_readText_22 : decode c_mo_readText 22 = .ok (.invokevirtual 234, 3) := by decide +kernel
theorem d_mo_readText_25 : decode c_mo_readText 25 = .ok (.istore 5, 2) := by decide +kernel
theorem d_mo_readText_27 : decode c_mo_readText 27 = .ok (.iload 5, 2) := by decide +kernel
theorem d_mo_readText_29 : decode c_mo_readText 29 = .ok (.sipush 128, 3) := by decide +kernel
theorem d_mo_readText_32 : decode c_mo_readText 32 = .ok (.if_icmp .ge 7, 3) := by decide +kernel
theorem d_mo_readText_35 : decode c_mo_readText 35 = .ok (.iconst 0, 1) := by decide +kernel
theorem d_mo_readText_36 : decode c_mo_readText 36 = .ok (.goto 64, 3) := by decide +kernel
theorem d_mo_readText_39 : decode c_mo_readText 39 = .ok (.iload 5, 2) := by decide +kernel
theorem d_mo_readText_41 : decode c_mo_readText 41 = .ok (.sipush 194, 3) := by decide +kernel
theorem d_mo_readText_44 : decode c_mo_readText 44 = .ok (.if_icmp .lt 15, 3) := by decide +kernel
theorem d_mo_readText_47 : decode c_mo_readText 47 = .ok (.iload 5, 2) := by decide +kernel
theorem d_mo_readText_49 : decode c_mo_readText 49 = .ok (.sipush 223, 3) := by decide +kernel
theorem d_mo_readText_52 : decode c_mo_readText 52 = .ok (.if_icmp .gt 7, 3) := by decide +kernel
theorem d_mo_readText_55 : decode c_mo_readText 55 = .ok (.iconst 1, 1) := by decide +kernel
theorem d_mo_readText_56 : decode c_mo_readText 56 = .ok (.goto 44, 3) := by decide +kernel
theorem d_mo_readText_59 : decode c_mo_readText 59 = .ok (.iload 5, 2) := by decide +kernel
theorem d_mo_readText_61 : decode c_mo_readText 61 = .ok (.sipush 224, 3) := by decide +kernel
theorem d_mo_readText_64 : decode c_mo_readText 64 = .ok (.if_icmp .lt 15, 3) := by decide +kernel
theorem d_mo_readText_67 : decode c_mo_readText 67 = .ok (.iload 5, 2) := by decide +kernel
theorem d_mo_readText_69 : decode c_mo_readText 69 = .ok (.sipush 239, 3) := by decide +kernel
theorem d_mo_readText_72 : decode c_mo_readText 72 = .ok (.if_icmp .gt 7, 3) := by decide +kernel
theorem d_mo_readText_75 : decode c_mo_readText 75 = .ok (.iconst 2, 1) := by decide +kernel
theorem d_mo_readText_76 : decode c_mo_readText 76 = .ok (.goto 24, 3) := by decide +kernel
theorem d_mo_readText_79 : decode c_mo_readText 79 = .ok (.iload 5, 2) := by decide +kernel
theorem d_mo_readText_81 : decode c_mo_readText 81 = .ok (.sipush 240, 3) := by decide +kernel
theorem d_mo_readText_84 : decode c_mo_readText 84 = .ok (.if_icmp .lt 15, 3) := by decide +kernel
theorem d_mo_readText_87 : decode c_mo_readText 87 = .ok (.iload 5, 2) := by decide +kernel
theorem d_mo_readText_89 : decode c_mo_readText 89 = .ok (.sipush 244, 3) := by decide +kernel
theorem d_mo_readText_92 : decode c_mo_readText 92 = .ok (.if_icmp .gt 7, 3) := by decide +kernel
theorem d_mo_readText_95 : decode c_mo_readText 95 = .ok (.iconst 3, 1) := by decide +kernel
theorem d_mo_readText_96 : decode c_mo_readText 96 = .ok (.goto 4, 3) := by decide +kernel
theorem d_mo_readText_99 : decode c_mo_readText 99 = .ok (.iconst (-1), 1) := by decide +kernel
theorem d_mo_readText_100 : decode c_mo_readText 100 = .ok (.istore 6, 2) := by decide +kernel
theorem d_mo_readText_102 : decode c_mo_readText 102 = .ok (.iload 6, 2) := by decide +kernel
theorem d_mo_readText_104 : decode c_mo_readText 104 = .ok (.ifCond .ge 12, 3) := by decide +kernel
theorem d_mo_readText_107 : decode c_mo_readText 107 = .ok (.aload_n 0, 1) := by decide +kernel
theorem d_mo_readText_108 : decode c_mo_readText 108 = .ok (.iconst 4, 1) := by decide +kernel
theorem d_mo_readText_109 : decode c_mo_readText 109 = .ok (.iload_n 2, 1) := by decide +kernel
theorem d_mo_readText_110 : decode c_mo_readText 110 = .ok (.iload 4, 2) := by decide +kernel
theorem d_mo_readText_112 : decode c_mo_readText 112 = .ok (.iadd, 1) := by decide +kernel
theorem d_mo_readText_113 : decode c_mo_readText 113 = .ok (.invokevirtual 230, 3) := by decide +kernel
theorem d_mo_readText_116 : decode c_mo_readText 116 = .ok (.iconst 1, 1) := by decide +kernel
theorem d_mo_readText_117 : decode c_mo_readText 117 = .ok (.istore 7, 2) := by decide +kernel
theorem d_mo_readText_119 : decode c_mo_readText 119 = .ok (.iload 7, 2) := by decide +kernel
theorem d_mo_readText_121 : decode c_mo_readText 121 = .ok (.iload 6, 2) := by decide +kernel
theorem d_mo_readText_123 : decode c_mo_readText 123 = .ok (.if_icmp .gt 164, 3) := by decide +kernel
theorem d_mo_readText_126 : decode c_mo_readText 126 = .ok (.aload_n 0, 1) := by decide +kernel
theorem d_mo_readText_127 : decode c_mo_readText 127 = .ok (.getfield 224, 3) := by decide +kernel
theorem d_mo_readText_130 : decode c_mo_readText 130 = .ok (.ifCond .ne 157, 3) := by decide +kernel
theorem d_mo_readText_133 : decode c_mo_readText 133 = .ok (.iload 4, 2) := by decide +kernel
theorem d_mo_readText_135 : decode c_mo_readText 135 = .ok (.iload 7, 2) := by decide +kernel
theorem d_mo_readText_137 : decode c_mo_readText 137 = .ok (.iadd, 1) := by decide +kernel
theorem d_mo_readText_138 : decode c_mo_readText 138 = .ok (.iload_n 3, 1) := by decide +kernel
theorem d_mo_readText_139 : decode c_mo_readText 139 = .ok (.if_icmp .ne 15, 3) := by decide +kernel
theorem d_mo_readText_142 : decode c_mo_readText 142 = .ok (.aload_n 0, 1) := by decide +kernel
theorem d_mo_readText_143 : decode c_mo_readText 143 = .ok (.iconst 4, 1) := by decide +kernel
theorem d_mo_readText_144 : decode c_mo_readText 144 = .ok (.iload_n 2, 1) := by decide +kernel
theorem d_mo_readText_145 : decode c_mo_readText 145 = .ok (.iload 4, 2) := by decide +kernel
theorem d_mo_readText_147 : decode c_mo_readText 147 = .ok (.iadd, 1) := by decide +kernel
theorem d_mo_readText_148 : decode c_mo_readText 148 = .ok (.invokevirtual 230, 3) := by decide +kernel
theorem d_mo_readText_151 : decode c_mo_readText 151 = .ok (.goto 130, 3) := by decide +kernel
theorem d_mo_readText_154 : decode c_mo_readText 154 = .ok (.iload 7, 2) := by decide +kernel
theorem d_mo_readText_156 : decode c_mo_readText 156 = .ok (.iconst 1, 1) := by decide +kernel
theorem d_mo_readText_157 : decode c_mo_readText 157 = .ok (.if_icmp .le 9, 3) := by decide +kernel
theorem d_mo_readText_160 : decode c_mo_readText 160 = .ok (.sipush 128, 3) := by decide +kernel
theorem d_mo_readText_163 : decode c_mo_readText 163 = .ok (.goto 34, 3) := by decide +kernel
theorem d_mo_readText_166 : decode c_mo_readText 166 = .ok (.iload 5, 2) := by decide +kernel
theorem d_mo_readText_168 : decode c_mo_readText 168 = .ok (.sipush 224, 3) := by decide +kernel
theorem d_mo_readText_171 : decode c_mo_readText 171 = .ok (.if_icmp .ne 9, 3) := by decide +kernel
theorem d_mo_readText_174 : decode c_mo_readText 174 = .ok (.sipush 160, 3) := by decide +kernel
theorem d_mo_readText_177 : decode c_mo_readText 177 = .ok (.goto 20, 3) := by decide +kernel
theorem d_mo_readText_180 : decode c_mo_readText 180 = .ok (.iload 5, 2) := by decide +kernel
theorem d_mo_readText_182 : decode c_mo_readText 182 = .ok (.sipush 240, 3) := by decide +kernel
theorem d_mo_readText_185 : decode c_mo_readText 185 = .ok (.if_icmp .ne 9, 3) := by decide +kernel
theorem d_mo_readText_188 : decode c_mo_readText 188 = .ok (.sipush 144, 3) := by decide +kernel
theorem d_mo_readText_191 : decode c_mo_readText 191 = .ok (.goto 6, 3) := by decide +kernel
theorem d_mo_readText_194 : decode c_mo_readText 194 = .ok (.sipush 128, 3) := by decide +kernel
theorem d_mo_readText_197 : decode c_mo_readText 197 = .ok (.istore 8, 2) := by decide +kernel
theorem d_mo_readText_199 : decode c_mo_readText 199 = .ok (.iload 7, 2) := by decide +kernel
theorem d_mo_readText_201 : decode c_mo_readText 201 = .ok (.iconst 1, 1) := by decide +kernel
theorem d_mo_readText_202 : decode c_mo_readText 202 = .ok (.if_icmp .le 9, 3) := by decide +kernel
theorem d_mo_readText_205 : decode c_mo_readText 205 = .ok (.sipush 191, 3) := by decide +kernel
theorem d_mo_readText_208 : decode c_mo_readText 208 = .ok (.goto 34, 3) := by decide +kernel
theorem d_mo_readText_211 : decode c_mo_readText 211 = .ok (.iload 5, 2) := by decide +kernel
theorem d_mo_readText_213 : decode c_mo_readText 213 = .ok (.sipush 237, 3) := by decide +kernel
theorem d_mo_readText_216 : decode c_mo_readText 216 = .ok (.if_icmp .ne 9, 3) := by decide +kernel
theorem d_mo_readText_219 : decode c_mo_readText 219 = .ok (.sipush 159, 3) := by decide +kernel
theorem d_mo_readText_222 : decode c_mo_readText 222 = .ok (.goto 20, 3) := by decide +kernel
theorem d_mo_readText_225 : decode c_mo_readText 225 = .ok (.iload 5, 2) := by decide +kernel
theorem d_mo_readText_227 : decode c_mo_readText 227 = .ok (.sipush 244, 3) := by decide +kernel
theorem d_mo_readText_230 : decode c_mo_readText 230 = .ok (.if_icmp .ne 9, 3) := by decide +kernel
theorem d_mo_readText_233 : decode c_mo_readText 233 = .ok (.sipush 143, 3) := by decide +kernel
theorem d_mo_readText_236 : decode c_mo_readText 236 = .ok (.goto 6, 3) := by decide +kernel
theorem d_mo_readText_239 : decode c_mo_readText 239 = .ok (.sipush 191, 3) := by decide +kernel
theorem d_mo_readText_242 : decode c_mo_readText 242 = .ok (.istore 9, 2) := by decide +kernel
theorem d_mo_readText_244 : decode c_mo_readText 244 = .ok (.aload_n 0, 1) := by decide +kernel
theorem d_mo_readText_245 : decode c_mo_readText 245 = .ok (.iload_n 1, 1) := by decide +kernel
theorem d_mo_readText_246 : decode c_mo_readText 246 = .ok (.iload_n 2, 1) := by decide +kernel
theorem d_mo_readText_247 : decode c_mo_readText 247 = .ok (.iload 4, 2) := by decide +kernel
theorem d_mo_readText_249 : decode c_mo_readText 249 = .ok (.iadd, 1) := by decide +kernel
theorem d_mo_readText_250 : decode c_mo_readText 250 = .ok (.iload 7, 2) := by decide +kernel
theorem d_mo_readText_252 : decode c_mo_readText 252 = .ok (.iadd, 1) := by decide +kernel
theorem d_mo_readText_253 : decode c_mo_readText 253 = .ok (.invokevirtual 234, 3) := by decide +kernel
theorem d_mo_readText_256 : decode c_mo_readText 256 = .ok (.istore 10, 2) := by decide +kernel
theorem d_mo_readText_258 : decode c_mo_readText 258 = .ok (.iload 10, 2) := by decide +kernel
theorem d_mo_readText_260 : decode c_mo_readText 260 = .ok (.iload 8, 2) := by decide +kernel
theorem d_mo_readText_262 : decode c_mo_readText 262 = .ok (.if_icmp .lt 10, 3) := by decide +kernel
theorem d_mo_readText_265 : decode c_mo_readText 265 = .ok (.iload 10, 2) := by decide +kernel
theorem d_mo_readText_267 : decode c_mo_readText 267 = .ok (.iload 9, 2) := by decide +kernel
theorem d_mo_readText_269 : decode c_mo_readText 269 = .ok (.if_icmp .le 12, 3) := by decide +kernel
theorem d_mo_readText_272 : decode c_mo_readText 272 = .ok (.aload_n 0, 1) := by decide +kernel
theorem d_mo_readText_273 : decode c_mo_readText 273 = .ok (.iconst 4, 1) := by decide +kernel
theorem d_mo_readText_274 : decode c_mo_readText 274 = .ok (.iload_n 2, 1) := by decide +kernel
theorem d_mo_readText_275 : decode c_mo_readText 275 = .ok (.iload 4, 2) := by decide +kernel
theorem d_mo_readText_277 : decode c_mo_readText 277 = .ok (.iadd, 1) := by decide +kernel
theorem d_mo_readText_278 : decode c_mo_readText 278 = .ok (.invokevirtual 230, 3) := by decide +kernel
theorem d_mo_readText_281 : decode c_mo_readText 281 = .ok (.iinc 7 1, 3) := by decide +kernel
theorem d_mo_readText_284 : decode c_mo_readText 284 = .ok (.goto (-165), 3) := by decide +kernel
theorem d_mo_readText_287 : decode c_mo_readText 287 = .ok (.iload 4, 2) := by decide +kernel
theorem d_mo_readText_289 : decode c_mo_readText 289 = .ok (.iload 6, 2) := by decide +kernel
theorem d_mo_readText_291 : decode c_mo_readText 291 = .ok (.iadd, 1) := by decide +kernel
theorem d_mo_readText_292 : decode c_mo_readText 292 = .ok (.iconst 1, 1) := by decide +kernel
theorem d_mo_readText_293 : decode c_mo_readText 293 = .ok (.iadd, 1) := by decide +kernel
theorem d_mo_readText_294 : decode c_mo_readText 294 = .ok (.istore 4, 2) := by decide +kernel
theorem d_mo_readText_296 : decode c_mo_readText 296 = .ok (.goto (-293), 3) := by decide +kernel
theorem d_mo_readText_299 : decode c_mo_readText 299 = .ok (.return_, 1) := by decide +kernel
end
section
/-! texts: groups of bytes -/
def tx_b (f : Nat → Int32) (ii P : Nat) : Int32 := if 256 ≤ P then 0 else f (256 * ii + P)
/-- how many bytes more a group has, by its first one; -1: none begins so -/
def tx_mr (b : Int32) : Int32 := if 128 ≤ b then (if ¬ b < 194 ∧ ¬ 223 < b then 1 else if ¬ b < 224 ∧ ¬ 239 < b then 2 else if ¬ b < 240 ∧ ¬ 244 < b then 3 else -1) else 0
def tx_lo (b : Int32) (m : Nat) : Int32 := if m = 0 then (if b = 224 then 160 else if b = 240 then 144 else 128) else 128
def tx_hi (b : Int32) (m : Nat) : Int32 := if m = 0 then (if b = 237 then 159 else if b = 244 then 143 else 191) else 191
/-- the group that begins at k, its first byte and m more looked at: a trap or none -/
def tx_c (f : Nat → Int32) (ii fr mn k : Nat) : Nat → Option (Int32 × Int32)
  | 0 => if 256 ≤ fr + k then some (1, nI (fr + k)) else if ¬ 0 ≤ tx_mr (tx_b f ii (fr + k)) then some (4, nI (fr + k)) else none
  | m + 1 => match tx_c f ii fr mn k m with
    | some r => some r
    | none => if k + (m + 1) = mn then some (4, nI (fr + k)) else if 256 ≤ fr + k + (m + 1) then some (1, nI (fr + k + (m + 1)))
      else if f (256 * ii + (fr + k + (m + 1))) < tx_lo (tx_b f ii (fr + k)) m ∨ tx_hi (tx_b f ii (fr + k)) m < f (256 * ii + (fr + k + (m + 1))) then some (4, nI (fr + k)) else none
def tx_g (f : Nat → Int32) (ii fr mn k : Nat) : Option (Int32 × Int32) := tx_c f ii fr mn k (tx_mr (tx_b f ii (fr + k))).toNatClampNeg
/-- the text from k on, of mn bytes at fr -/
def tx_r (f : Nat → Int32) (ii fr mn : Nat) : Nat → Nat → Option (Int32 × Int32)
  | 0, _ => none
  | n + 1, k => if mn ≤ k then none else match tx_g f ii fr mn k with
    | some r => some r
    | none => tx_r f ii fr mn n (k + (tx_mr (tx_b f ii (fr + k))).toNatClampNeg + 1)
theorem n_out {P : Nat} (h : P < 2147483648) : (nI P < 0 ∨ 255 < nI P) ↔ 256 ≤ P := by
  constructor
  · rintro (z | z)
    · exact absurd z (nI_pos h)
    · exact n_lt 255 P z
  · exact fun z => Or.inr ((nI_ltI (a := 255) (by omega) h).mpr (by omega))
theorem tx_mr_in (b : Int32) : tx_mr b = 0 ∨ tx_mr b = 1 ∨ tx_mr b = 2 ∨ tx_mr b = 3 ∨ tx_mr b = -1 := by
  unfold tx_mr; split
  · split
    · simp
    · split
      · simp
      · split <;> simp
  · simp
theorem tx_lo_ge (b : Int32) (m : Nat) : ¬ tx_lo b m ≤ 0 := by
  unfold tx_lo; split
  · split
    · decide
    · split <;> decide
  · decide
theorem tx_c1 {f : Nat → Int32} {ii fr mn k m : Nat} {r : Int32 × Int32} (h : tx_c f ii fr mn k m = some r) : ∀ j, m ≤ j → tx_c f ii fr mn k j = some r := by
  intro j hj
  obtain ⟨d, rfl⟩ : ∃ d, j = m + d := ⟨j - m, by omega⟩
  induction d with
  | zero => exact h
  | succ d ih => rw [Nat.add_succ, tx_c, ih (by omega)]
theorem tx_cc {f : Nat → Int32} {ii fr mn k : Nat} : ∀ {m : Nat} {r : Int32 × Int32}, tx_c f ii fr mn k m = some r → r.1 = 1 ∨ r.1 = 4 := by
  intro m
  induction m with
  | zero =>
    intro r h
    rw [tx_c] at h
    split at h
    · cases h; exact Or.inl rfl
    · split at h
      · cases h; exact Or.inr rfl
      · cases h
  | succ m ih =>
    intro r h
    rw [tx_c] at h
    cases e : tx_c f ii fr mn k m with
    | some q => rw [e] at h; cases h; exact ih e
    | none =>
      rw [e] at h
      dsimp only at h
      split at h
      · cases h; exact Or.inr rfl
      · split at h
        · cases h; exact Or.inl rfl
        · split at h
          · cases h; exact Or.inr rfl
          · cases h
theorem mo_fl2 {F : Nat → Int32} (h : ¬ F 54 = 0) (c p : Int32) : mo_fl F c p = F := by rw [mo_fl, if_neg h]
theorem mo_fo54 {F : Nat → Int32} (h0 : F 54 = 0) {o : Option (Int32 × Int32)} (ho : ∀ r, o = some r → r.1 = 1 ∨ r.1 = 4) : (mo_fo F o 54 = 0 ↔ o = none) := by
  cases o with
  | none => exact ⟨fun _ => rfl, fun _ => h0⟩
  | some r =>
    constructor
    · intro z
      have z : mo_fl F r.1 r.2 54 = 0 := z
      rw [mo_fl1 h0] at z
      rcases ho r rfl with q | q <;> rw [q] at z <;> exact absurd z (by decide)
    · intro z; cases z
theorem tx_s1 {F F1 : Nat → Int32} {B : Nat → Nat → Int32} {ii fr mn k m : Nat} {nx : Int32} (h0 : F 54 = 0) (hP : fr + k + (m + 1) < 2147483648) (hn : tx_c (B 13) ii fr mn k m = none) (hm : k + (m + 1) ≠ mn)
    (hb : ((nI (fr + k + (m + 1)) < 0 ∨ 255 < nI (fr + k + (m + 1))) ∧ nx = 0 ∧ F1 = mo_fl F 1 (nI (fr + k + (m + 1))) ∧ ¬ F1 54 ≤ 0) ∨ (¬ (nI (fr + k + (m + 1)) < 0 ∨ 255 < nI (fr + k + (m + 1))) ∧ nx = B 13 (256 * nI ii + nI (fr + k + (m + 1))).toNatClampNeg ∧ F1 = F ∧ F1 54 ≤ 0)) (hi : ii < 6)
    (hc : nx < tx_lo (tx_b (B 13) ii (fr + k)) m ∨ tx_hi (tx_b (B 13) ii (fr + k)) m < nx) : mo_fl F1 4 (nI (fr + k)) = mo_fo F (tx_c (B 13) ii fr mn k (m + 1)) := by
  rcases hb with ⟨hp, -, rfl, -⟩ | ⟨hp, hx, rfl, -⟩
  · have hp := (n_out hP).mp hp
    rw [mo_fl2 (by rw [mo_fl1 h0]; decide), tx_c, hn]
    simp only [if_neg hm, if_pos hp]; rfl
  · have hp : ¬ 256 ≤ fr + k + (m + 1) := fun z => hp ((n_out hP).mpr z)
    rw [n_256, pk_mul, nI_add, nI_clamp (by omega)] at hx
    rw [tx_c, hn]
    simp only [if_neg hm, if_neg hp]
    rw [if_pos (by rw [← hx]; exact hc)]; rfl
theorem tx_s2 {F F1 : Nat → Int32} {B : Nat → Nat → Int32} {ii fr mn k m : Nat} {nx : Int32} (h0 : F 54 = 0) (hP : fr + k + (m + 1) < 2147483648) (hn : tx_c (B 13) ii fr mn k m = none) (hm : k + (m + 1) ≠ mn)
    (hb : ((nI (fr + k + (m + 1)) < 0 ∨ 255 < nI (fr + k + (m + 1))) ∧ nx = 0 ∧ F1 = mo_fl F 1 (nI (fr + k + (m + 1))) ∧ ¬ F1 54 ≤ 0) ∨ (¬ (nI (fr + k + (m + 1)) < 0 ∨ 255 < nI (fr + k + (m + 1))) ∧ nx = B 13 (256 * nI ii + nI (fr + k + (m + 1))).toNatClampNeg ∧ F1 = F ∧ F1 54 ≤ 0)) (hi : ii < 6)
    (hc : ¬ nx < tx_lo (tx_b (B 13) ii (fr + k)) m) (hd : nx ≤ tx_hi (tx_b (B 13) ii (fr + k)) m) : F1 = mo_fo F (tx_c (B 13) ii fr mn k (m + 1)) := by
  rcases hb with ⟨hp, rfl, rfl, -⟩ | ⟨hp, hx, rfl, -⟩
  · exact absurd (Int32.not_lt.mp hc) (tx_lo_ge _ _)
  · have hp : ¬ 256 ≤ fr + k + (m + 1) := fun z => hp ((n_out hP).mpr z)
    rw [n_256, pk_mul, nI_add, nI_clamp (by omega)] at hx
    rw [tx_c, hn]
    simp only [if_neg hm, if_neg hp]
    rw [if_neg (by rw [← hx]; exact fun z => z.elim hc (fun z => absurd hd (Int32.not_le.mpr z)))]; rfl
theorem tx_s3 {F : Nat → Int32} {f : Nat → Int32} {ii fr mn k m : Nat} (hn : tx_c f ii fr mn k m = none) (hm : k + (m + 1) = mn) : mo_fl F 4 (nI (fr + k)) = mo_fo F (tx_c f ii fr mn k (m + 1)) := by
  rw [tx_c, hn]
  simp only [if_pos hm]; rfl
/-- the first byte -/
theorem tx_f {F F1 : Nat → Int32} {B : Nat → Nat → Int32} {ii fr k : Nat} {y : Int32} (hP : fr + k < 2147483648) (hi : ii < 6)
    (hb : ((nI (fr + k) < 0 ∨ 255 < nI (fr + k)) ∧ y = 0 ∧ F1 = mo_fl F 1 (nI (fr + k)) ∧ ¬ F1 54 ≤ 0) ∨ (¬ (nI (fr + k) < 0 ∨ 255 < nI (fr + k)) ∧ y = B 13 (256 * nI ii + nI (fr + k)).toNatClampNeg ∧ F1 = F ∧ F1 54 ≤ 0)) :
    y = tx_b (B 13) ii (fr + k) ∧ (256 ≤ fr + k ∧ F1 = mo_fl F 1 (nI (fr + k)) ∨ ¬ 256 ≤ fr + k ∧ F1 = F) := by
  rcases hb with ⟨hp, hy, e, -⟩ | ⟨hp, hx, e, -⟩
  · have hp := (n_out hP).mp hp
    exact ⟨by rw [tx_b, if_pos hp]; exact hy, Or.inl ⟨hp, e⟩⟩
  · have hp : ¬ 256 ≤ fr + k := fun z => hp ((n_out hP).mpr z)
    rw [n_256, pk_mul, nI_add, nI_clamp (by omega)] at hx
    exact ⟨by rw [tx_b, if_neg hp]; exact hx, Or.inr ⟨hp, e⟩⟩
theorem tx_f0 {F F1 : Nat → Int32} {f : Nat → Int32} {ii fr mn k : Nat} (h : 256 ≤ fr + k ∧ F1 = mo_fl F 1 (nI (fr + k)) ∨ ¬ 256 ≤ fr + k ∧ F1 = F) (hm : 0 ≤ tx_mr (tx_b f ii (fr + k))) : F1 = mo_fo F (tx_c f ii fr mn k 0) := by
  rcases h with ⟨a, e⟩ | ⟨a, e⟩
  · rw [tx_c, if_pos a]; exact e
  · rw [tx_c, if_neg a, if_neg (fun z => z hm)]; exact e
theorem tx_f1 {F F1 : Nat → Int32} {f : Nat → Int32} {ii fr mn k : Nat} (h0 : F 54 = 0) (h : 256 ≤ fr + k ∧ F1 = mo_fl F 1 (nI (fr + k)) ∨ ¬ 256 ≤ fr + k ∧ F1 = F) (hm : ¬ 0 ≤ tx_mr (tx_b f ii (fr + k))) : mo_fl F1 4 (nI (fr + k)) = mo_fo F (tx_c f ii fr mn k 0) := by
  rcases h with ⟨a, e⟩ | ⟨a, e⟩
  · rw [tx_c, if_pos a, e, mo_fl2 (by rw [mo_fl1 h0]; decide)]; rfl
  · rw [tx_c, if_neg a, if_pos hm, e]; rfl
theorem tx_w {f : Nat → Int32} {ii fr mn n k : Nat} {r : Int32 × Int32} (hk : ¬ mn ≤ k) (h : tx_g f ii fr mn k = some r) : tx_r f ii fr mn (n + 1) k = some r := by
  rw [tx_r, if_neg hk, h]
theorem tx_w0 {f : Nat → Int32} {ii fr mn n k : Nat} (hk : ¬ mn ≤ k) (h : tx_g f ii fr mn k = none) : tx_r f ii fr mn (n + 1) k = tx_r f ii fr mn n (k + (tx_mr (tx_b f ii (fr + k))).toNatClampNeg + 1) := by
  rw [tx_r, if_neg hk, h]

set_option maxHeartbeats 4000000 in
set_option maxRecDepth 100000 in
theorem mt_readText {l : Launch} {D : va_G} {tl : List (ClassId × FieldType)} {Z : (Nat → Prop) → State → Heap → Prop} {kI kZ : ClassId} {am : Nat → Nat} {F : Nat → Int32} {B : Nat → Nat → Int32} (hZ : ev_Zok Z) (ii : Nat) (fr : Nat) (mn : Nat) (hii : ii < 6) (hfr : fr ≤ 65535) (hmn0 : mn ≤ 65535) (h0 : F 54 = 0) : MT (mo_π l D cl_A kI kZ tl Z) m_readText 0 0 [.ref (am 60), .int (nI ii), .int (nI fr), .int (nI mn)] (mo_W mo_ci am kI kZ F B) (mo_qv am kI kZ (fun F1 B1 => F1 = mo_fo F (tx_r (B 13) ii fr mn (mn + 1) 0) ∧ B1 = B)) := by
  refine mt_of mo_pl rfl (Nat.le_of_ble_eq_true rfl) (ev_eq (lv' := [some (.ref (am 60)), some (.int (nI ii)), some (.int (nI fr)), some (.int (nI mn)), none, none, none, none, none, none, none]) ?_)
  have E3 : ∀ (r : Int32 × Int32) (kk : Int32) (o5 o6 o7 o8 o9 o10 : Option Value), (r.1 = 1 ∨ r.1 = 4) → tx_r (B 13) ii fr mn (mn + 1) 0 = some r → EV (mo_π l D cl_A kI kZ tl Z) m_readText (ev_E (mo_π l D cl_A kI kZ tl Z) 0 0 (mo_qv am kI kZ (fun F1 B1 => F1 = mo_fo F (tx_r (B 13) ii fr mn (mn + 1) 0) ∧ B1 = B))) 0 0 3 [some (.ref (am 60)), some (.int (nI ii)), some (.int (nI fr)), some (.int (nI mn)), some (.int kk), o5, o6, o7, o8, o9, o10] [] (mo_W mo_ci am kI kZ (mo_fo F (some r)) B) := by
    intro r kk o5 o6 o7 o8 o9 o10 hr1 hr
    refine ev_iload_4 3 d_mo_readText_3 ?_
    refine ev_iload_3 5 d_mo_readText_5 ?_
    refine ev_icmpge 6 299 d_mo_readText_6 (fun c6 => ?_) (fun c6 => ?_)
    · refine ev_vret 299 d_mo_readText_299 rfl ?_
      exact ⟨_, _, rfl, rfl, by rw [hr], rfl⟩
    · refine ev_aload_0 9 d_mo_readText_9 ?_
      refine mo_geti 10 54 d_mo_readText_10 lk_224 ?_
      refine ev_ifne 13 299 d_mo_readText_13 (fun c13 => ?_) (fun c13 => ?_)
      · refine ev_vret 299 d_mo_readText_299 rfl ?_
        exact ⟨_, _, rfl, rfl, by rw [hr], rfl⟩
      · exact absurd (show mo_fl F r.1 r.2 54 = 0 from c13) (by rw [mo_fl1 h0]; rcases hr1 with z | z <;> rw [z] <;> decide)
  have L3 : ∀ (m k : Nat) (o5 o6 o7 o8 o9 o10 : Option Value), mn - k < m → k ≤ mn + 4 → tx_r (B 13) ii fr mn (mn + 1) 0 = tx_r (B 13) ii fr mn m k → EV (mo_π l D cl_A kI kZ tl Z) m_readText (ev_E (mo_π l D cl_A kI kZ tl Z) 0 0 (mo_qv am kI kZ (fun F1 B1 => F1 = mo_fo F (tx_r (B 13) ii fr mn (mn + 1) 0) ∧ B1 = B))) 0 0 3 [some (.ref (am 60)), some (.int (nI ii)), some (.int (nI fr)), some (.int (nI mn)), some (.int (nI k)), o5, o6, o7, o8, o9, o10] [] (mo_W mo_ci am kI kZ F B) := by
    intro m
    induction m with
    | zero => intro k o5 o6 o7 o8 o9 o10 h; omega
    | succ m ih =>
      intro k o5 o6 o7 o8 o9 o10 hm hk4 hr
      have M287 : ∀ (o7 o8 o9 o10 : Option Value), ¬ mn ≤ k → EV (mo_π l D cl_A kI kZ tl Z) m_readText (ev_E (mo_π l D cl_A kI kZ tl Z) 0 0 (mo_qv am kI kZ (fun F1 B1 => F1 = mo_fo F (tx_r (B 13) ii fr mn (mn + 1) 0) ∧ B1 = B))) 0 0 287 [some (.ref (am 60)), some (.int (nI ii)), some (.int (nI fr)), some (.int (nI mn)), some (.int (nI k)), some (.int (tx_b (B 13) ii (fr + k))), some (.int (tx_mr (tx_b (B 13) ii (fr + k)))), o7, o8, o9, o10] [] (mo_W mo_ci am kI kZ (mo_fo F (tx_g (B 13) ii fr mn k)) B) := by
        intro o7 o8 o9 o10 hkn
        refine ev_iload_4 287 d_mo_readText_287 ?_
        refine ev_iload_6 289 d_mo_readText_289 ?_
        refine ev_iadd 291 d_mo_readText_291 ?_
        refine ev_iconst_1 292 d_mo_readText_292 ?_
        refine ev_iadd 293 d_mo_readText_293 ?_
        refine ev_istore_4 294 d_mo_readText_294 ?_
        refine ev_goto 296 3 d_mo_readText_296 ?_
        cases hg : tx_g (B 13) ii fr mn k with
        | some r => exact E3 r _ _ _ _ _ _ _ (tx_cc hg) (hr.trans (tx_w hkn hg))
        | none =>
          have hq : tx_mr (tx_b (B 13) ii (fr + k)) = nI (tx_mr (tx_b (B 13) ii (fr + k))).toNatClampNeg ∧ (tx_mr (tx_b (B 13) ii (fr + k))).toNatClampNeg ≤ 3 := by
            rcases tx_mr_in (tx_b (B 13) ii (fr + k)) with z | z | z | z | z
            · rw [z]; exact ⟨rfl, by decide⟩
            · rw [z]; exact ⟨rfl, by decide⟩
            · rw [z]; exact ⟨rfl, by decide⟩
            · rw [z]; exact ⟨rfl, by decide⟩
            · rw [tx_g, z] at hg
              have hg : tx_c (B 13) ii fr mn k 0 = none := hg
              rw [tx_c] at hg
              split at hg
              · cases hg
              · rw [if_pos (by rw [z]; decide)] at hg; cases hg
          refine ev_eq (ih (k + (tx_mr (tx_b (B 13) ii (fr + k))).toNatClampNeg + 1) (some (.int (tx_b (B 13) ii (fr + k)))) (some (.int (tx_mr (tx_b (B 13) ii (fr + k))))) o7 o8 o9 o10 (by omega) ?_ (hr.trans (tx_w0 hkn hg))) (h1 := ?_)
          · omega
          · rw [show nI k + tx_mr (tx_b (B 13) ii (fr + k)) + 1 = nI (k + (tx_mr (tx_b (B 13) ii (fr + k))).toNatClampNeg + 1) by rw [← nI_1, ← nI_add, ← hq.1]]
      have M119 : ∀ (m2 q : Nat) (o8 o9 o10 : Option Value), (tx_mr (tx_b (B 13) ii (fr + k))).toNatClampNeg - q < m2 → q ≤ (tx_mr (tx_b (B 13) ii (fr + k))).toNatClampNeg → ¬ mn ≤ k → EV (mo_π l D cl_A kI kZ tl Z) m_readText (ev_E (mo_π l D cl_A kI kZ tl Z) 0 0 (mo_qv am kI kZ (fun F1 B1 => F1 = mo_fo F (tx_r (B 13) ii fr mn (mn + 1) 0) ∧ B1 = B))) 0 0 119 [some (.ref (am 60)), some (.int (nI ii)), some (.int (nI fr)), some (.int (nI mn)), some (.int (nI k)), some (.int (tx_b (B 13) ii (fr + k))), some (.int (tx_mr (tx_b (B 13) ii (fr + k)))), some (.int (nI (q + 1))), o8, o9, o10] [] (mo_W mo_ci am kI kZ (mo_fo F (tx_c (B 13) ii fr mn k q)) B) := by
        intro m2
        induction m2 with
        | zero => intro q o8 o9 o10 h; omega
        | succ m2 ih2 =>
          intro q o8 o9 o10 hm2 hq hkn
          have hq3 : (tx_mr (tx_b (B 13) ii (fr + k))).toNatClampNeg ≤ 3 := by rcases tx_mr_in (tx_b (B 13) ii (fr + k)) with z | z | z | z | z <;> rw [z] <;> decide
          have M242 : ∀ (o9 : Option Value), ∀ (o10 : Option Value), (tx_mr (tx_b (B 13) ii (fr + k))).toNatClampNeg - q < m2 + 1 → q < (tx_mr (tx_b (B 13) ii (fr + k))).toNatClampNeg → tx_c (B 13) ii fr mn k q = none → k + (q + 1) ≠ mn → EV (mo_π l D cl_A kI kZ tl Z) m_readText (ev_E (mo_π l D cl_A kI kZ tl Z) 0 0 (mo_qv am kI kZ (fun F1 B1 => F1 = mo_fo F (tx_r (B 13) ii fr mn (mn + 1) 0) ∧ B1 = B))) 0 0 242 [some (.ref (am 60)), some (.int (nI ii)), some (.int (nI fr)), some (.int (nI mn)), some (.int (nI k)), some (.int (tx_b (B 13) ii (fr + k))), some (.int (tx_mr (tx_b (B 13) ii (fr + k)))), some (.int (nI (q + 1))), some (.int (tx_lo (tx_b (B 13) ii (fr + k)) q)), o9, o10] [.int (tx_hi (tx_b (B 13) ii (fr + k)) q)] (mo_W mo_ci am kI kZ F B) := by
            intro o9 o10 hm9 hlt hn hne
            refine ev_istore_9 242 d_mo_readText_242 ?_
            refine ev_aload_0 244 d_mo_readText_244 ?_
            refine ev_iload_1 245 d_mo_readText_245 ?_
            refine ev_iload_2 246 d_mo_readText_246 ?_
            refine ev_iload_4 247 d_mo_readText_247 ?_
            refine ev_iadd 249 d_mo_readText_249 ?_
            refine ev_iload_7 250 d_mo_readText_250 ?_
            refine ev_iadd 252 d_mo_readText_252 ?_
            refine ev_topi (nI (fr + k + (q + 1))) (by rw [nI_add, nI_add]) ?_
            refine mo_calli2 253 d_mo_readText_253 hZ kc_234 (mt_byteAt hZ (nI ii) _ (mo_bb hii _)) (fun nx F2 B1 h => ?_)
            obtain ⟨hb, e2⟩ := h
            subst B1
            have hb2 := mo_bp0 h0 hb
            refine ev_istore_10 256 d_mo_readText_256 ?_
            refine ev_iload_10 258 d_mo_readText_258 ?_
            refine ev_iload_8 260 d_mo_readText_260 ?_
            refine ev_icmplt 262 272 d_mo_readText_262 (fun c262 => ?_) (fun c262 => ?_)
            · refine ev_aload_0 272 d_mo_readText_272 ?_
              refine ev_iconst_4 273 d_mo_readText_273 ?_
              refine ev_iload_2 274 d_mo_readText_274 ?_
              refine ev_iload_4 275 d_mo_readText_275 ?_
              refine ev_iadd 277 d_mo_readText_277 ?_
              refine ev_topi (nI (fr + k)) (by rw [nI_add]) ?_
              refine mo_callv2 278 d_mo_readText_278 hZ kc_230 (mt_fails hZ _ _) (fun F9 B9 h => ?_)
              obtain ⟨e1, e2⟩ := h
              subst F9
              subst B9
              refine ev_iinc_7 281 d_mo_readText_281 ?_
              refine ev_goto 284 119 d_mo_readText_284 ?_
              exact ev_eq (ih2 (q + 1) _ _ _ (by omega) (by omega) hkn) (h1 := by rw [n_i1]) (h3 := by rw [tx_s1 h0 (by omega) hn hne hb2 hii (Or.inl c262)])
            · refine ev_iload_10 265 d_mo_readText_265 ?_
              refine ev_iload_9 267 d_mo_readText_267 ?_
              refine ev_icmple 269 281 d_mo_readText_269 (fun c269 => ?_) (fun c269 => ?_)
              · refine ev_iinc_7 281 d_mo_readText_281 ?_
                refine ev_goto 284 119 d_mo_readText_284 ?_
                exact ev_eq (ih2 (q + 1) _ _ _ (by omega) (by omega) hkn) (h1 := by rw [n_i1]) (h3 := by rw [tx_s2 h0 (by omega) hn hne hb2 hii c262 c269])
              · refine ev_aload_0 272 d_mo_readText_272 ?_
                refine ev_iconst_4 273 d_mo_readText_273 ?_
                refine ev_iload_2 274 d_mo_readText_274 ?_
                refine ev_iload_4 275 d_mo_readText_275 ?_
                refine ev_iadd 277 d_mo_readText_277 ?_
                refine ev_topi (nI (fr + k)) (by rw [nI_add]) ?_
                refine mo_callv2 278 d_mo_readText_278 hZ kc_230 (mt_fails hZ _ _) (fun F9 B9 h => ?_)
                obtain ⟨e1, e2⟩ := h
                subst F9
                subst B9
                refine ev_iinc_7 281 d_mo_readText_281 ?_
                refine ev_goto 284 119 d_mo_readText_284 ?_
                exact ev_eq (ih2 (q + 1) _ _ _ (by omega) (by omega) hkn) (h1 := by rw [n_i1]) (h3 := by rw [tx_s1 h0 (by omega) hn hne hb2 hii (Or.inr (Int32.not_le.mp c269))])
          have M197 : ∀ (o8 o9 : Option Value), ∀ (o10 : Option Value), (tx_mr (tx_b (B 13) ii (fr + k))).toNatClampNeg - q < m2 + 1 → q < (tx_mr (tx_b (B 13) ii (fr + k))).toNatClampNeg → tx_c (B 13) ii fr mn k q = none → k + (q + 1) ≠ mn → EV (mo_π l D cl_A kI kZ tl Z) m_readText (ev_E (mo_π l D cl_A kI kZ tl Z) 0 0 (mo_qv am kI kZ (fun F1 B1 => F1 = mo_fo F (tx_r (B 13) ii fr mn (mn + 1) 0) ∧ B1 = B))) 0 0 197 [some (.ref (am 60)), some (.int (nI ii)), some (.int (nI fr)), some (.int (nI mn)), some (.int (nI k)), some (.int (tx_b (B 13) ii (fr + k))), some (.int (tx_mr (tx_b (B 13) ii (fr + k)))), some (.int (nI (q + 1))), o8, o9, o10] [.int (tx_lo (tx_b (B 13) ii (fr + k)) q)] (mo_W mo_ci am kI kZ F B) := by
            intro o8 o9 o10 hm9 hlt hn hne
            refine ev_istore_8 197 d_mo_readText_197 ?_
            refine ev_iload_7 199 d_mo_readText_199 ?_
            refine ev_iconst_1 201 d_mo_readText_201 ?_
            refine ev_icmple 202 211 d_mo_readText_202 (fun c202 => ?_) (fun c202 => ?_)
            · refine ev_iload_5 211 d_mo_readText_211 ?_
              refine ev_sipush (237) 213 d_mo_readText_213 (by decide) ?_
              refine ev_icmpne 216 225 d_mo_readText_216 (fun c216 => ?_) (fun c216 => ?_)
              · refine ev_iload_5 225 d_mo_readText_225 ?_
                refine ev_sipush (244) 227 d_mo_readText_227 (by decide) ?_
                refine ev_icmpne 230 239 d_mo_readText_230 (fun c230 => ?_) (fun c230 => ?_)
                · refine ev_sipush (191) 239 d_mo_readText_239 (by decide) ?_
                  refine ev_topi (tx_hi (tx_b (B 13) ii (fr + k)) q) (Eq.symm (by rw [tx_hi, if_pos (show q = 0 by have := n_le (q + 1) 1 c202; omega), if_neg c216, if_neg c230])) ?_
                  exact M242 o9 o10 hm9 hlt hn hne
                · refine ev_sipush (143) 233 d_mo_readText_233 (by decide) ?_
                  refine ev_goto 236 242 d_mo_readText_236 ?_
                  refine ev_topi (tx_hi (tx_b (B 13) ii (fr + k)) q) (Eq.symm (by rw [tx_hi, if_pos (show q = 0 by have := n_le (q + 1) 1 c202; omega), if_neg c216, if_pos c230])) ?_
                  exact M242 o9 o10 hm9 hlt hn hne
              · refine ev_sipush (159) 219 d_mo_readText_219 (by decide) ?_
                refine ev_goto 222 242 d_mo_readText_222 ?_
                refine ev_topi (tx_hi (tx_b (B 13) ii (fr + k)) q) (Eq.symm (by rw [tx_hi, if_pos (show q = 0 by have := n_le (q + 1) 1 c202; omega), if_pos c216])) ?_
                exact M242 o9 o10 hm9 hlt hn hne
            · refine ev_sipush (191) 205 d_mo_readText_205 (by decide) ?_
              refine ev_goto 208 242 d_mo_readText_208 ?_
              refine ev_topi (tx_hi (tx_b (B 13) ii (fr + k)) q) (Eq.symm (by rw [tx_hi, if_neg (show ¬ q = 0 by have := n_nle (q + 1) 1 c202; omega)])) ?_
              exact M242 o9 o10 hm9 hlt hn hne
          refine ev_iload_7 119 d_mo_readText_119 ?_
          refine ev_iload_6 121 d_mo_readText_121 ?_
          refine ev_icmpgt 123 287 d_mo_readText_123 (fun c123 => ?_) (fun c123 => ?_)
          · have hq4 : q ≤ 3 := Nat.le_trans hq hq3
            have hge : (tx_mr (tx_b (B 13) ii (fr + k))).toNatClampNeg = q := by
              rcases tx_mr_in (tx_b (B 13) ii (fr + k)) with z | z | z | z | z
              · rw [z] at c123 hq ⊢; have := n_lt 0 (q + 1) c123; show (0 : Nat) = q; change q ≤ 0 at hq; omega
              · rw [z] at c123 hq ⊢; have := n_lt 1 (q + 1) c123; show (1 : Nat) = q; change q ≤ 1 at hq; omega
              · rw [z] at c123 hq ⊢; have := n_lt 2 (q + 1) c123; show (2 : Nat) = q; change q ≤ 2 at hq; omega
              · rw [z] at c123 hq ⊢; have := n_lt 3 (q + 1) c123; show (3 : Nat) = q; change q ≤ 3 at hq; omega
              · rw [z] at hq ⊢; show (0 : Nat) = q; change q ≤ 0 at hq; omega
            exact ev_eq (M287 (some (.int (nI (q + 1)))) o8 o9 o10 hkn) (h3 := by rw [tx_g, hge])
          · refine ev_aload_0 126 d_mo_readText_126 ?_
            refine mo_geti 127 54 d_mo_readText_127 lk_224 ?_
            refine ev_ifne 130 287 d_mo_readText_130 (fun c130 => ?_) (fun c130 => ?_)
            · cases hc : tx_c (B 13) ii fr mn k q with
              | none => exact absurd (by rw [hc]; exact h0) c130
              | some r => exact ev_eq (M287 (some (.int (nI (q + 1)))) o8 o9 o10 hkn) (h3 := by rw [tx_g, tx_c1 hc _ hq])
            · have hq4 : q ≤ 3 := Nat.le_trans hq hq3
              have hlt : q < (tx_mr (tx_b (B 13) ii (fr + k))).toNatClampNeg := by
                rcases tx_mr_in (tx_b (B 13) ii (fr + k)) with z | z | z | z | z
                · rw [z] at c123; exact absurd (n_nlt 0 (q + 1) c123) (by omega)
                · rw [z] at c123 ⊢; exact Nat.lt_of_succ_le (n_nlt 1 (q + 1) c123)
                · rw [z] at c123 ⊢; exact Nat.lt_of_succ_le (n_nlt 2 (q + 1) c123)
                · rw [z] at c123 ⊢; exact Nat.lt_of_succ_le (n_nlt 3 (q + 1) c123)
                · rw [z] at c123; exact absurd (Int32.lt_of_lt_of_le (by decide) (nI_pos' (by omega))) c123
              have hn : tx_c (B 13) ii fr mn k q = none := (mo_fo54 h0 (fun r hr => tx_cc hr)).mp c130
              refine ev_eq (ws' := mo_W mo_ci am kI kZ F B) ?_ (h3 := by rw [hn]; rfl)
              refine ev_iload_4 133 d_mo_readText_133 ?_
              refine ev_iload_7 135 d_mo_readText_135 ?_
              refine ev_iadd 137 d_mo_readText_137 ?_
              refine ev_iload_3 138 d_mo_readText_138 ?_
              refine ev_icmpne 139 154 d_mo_readText_139 (fun c139 => ?_) (fun c139 => ?_)
              · have hne : k + (q + 1) ≠ mn := fun z => c139 (by rw [nI_add, z])
                refine ev_iload_7 154 d_mo_readText_154 ?_
                refine ev_iconst_1 156 d_mo_readText_156 ?_
                refine ev_icmple 157 166 d_mo_readText_157 (fun c157 => ?_) (fun c157 => ?_)
                · refine ev_iload_5 166 d_mo_readText_166 ?_
                  refine ev_sipush (224) 168 d_mo_readText_168 (by decide) ?_
                  refine ev_icmpne 171 180 d_mo_readText_171 (fun c171 => ?_) (fun c171 => ?_)
                  · refine ev_iload_5 180 d_mo_readText_180 ?_
                    refine ev_sipush (240) 182 d_mo_readText_182 (by decide) ?_
                    refine ev_icmpne 185 194 d_mo_readText_185 (fun c185 => ?_) (fun c185 => ?_)
                    · refine ev_sipush (128) 194 d_mo_readText_194 (by decide) ?_
                      refine ev_topi (tx_lo (tx_b (B 13) ii (fr + k)) q) (Eq.symm (by rw [tx_lo, if_pos (show q = 0 by have := n_le (q + 1) 1 c157; omega), if_neg c171, if_neg c185])) ?_
                      exact M197 o8 o9 o10 hm2 hlt hn hne
                    · refine ev_sipush (144) 188 d_mo_readText_188 (by decide) ?_
                      refine ev_goto 191 197 d_mo_readText_191 ?_
                      refine ev_topi (tx_lo (tx_b (B 13) ii (fr + k)) q) (Eq.symm (by rw [tx_lo, if_pos (show q = 0 by have := n_le (q + 1) 1 c157; omega), if_neg c171, if_pos c185])) ?_
                      exact M197 o8 o9 o10 hm2 hlt hn hne
                  · refine ev_sipush (160) 174 d_mo_readText_174 (by decide) ?_
                    refine ev_goto 177 197 d_mo_readText_177 ?_
                    refine ev_topi (tx_lo (tx_b (B 13) ii (fr + k)) q) (Eq.symm (by rw [tx_lo, if_pos (show q = 0 by have := n_le (q + 1) 1 c157; omega), if_pos c171])) ?_
                    exact M197 o8 o9 o10 hm2 hlt hn hne
                · refine ev_sipush (128) 160 d_mo_readText_160 (by decide) ?_
                  refine ev_goto 163 197 d_mo_readText_163 ?_
                  refine ev_topi (tx_lo (tx_b (B 13) ii (fr + k)) q) (Eq.symm (by rw [tx_lo, if_neg (show ¬ q = 0 by have := n_nle (q + 1) 1 c157; omega)])) ?_
                  exact M197 o8 o9 o10 hm2 hlt hn hne
              · refine ev_aload_0 142 d_mo_readText_142 ?_
                refine ev_iconst_4 143 d_mo_readText_143 ?_
                refine ev_iload_2 144 d_mo_readText_144 ?_
                refine ev_iload_4 145 d_mo_readText_145 ?_
                refine ev_iadd 147 d_mo_readText_147 ?_
                refine ev_topi (nI (fr + k)) (by rw [nI_add]) ?_
                refine mo_callv2 148 d_mo_readText_148 hZ kc_230 (mt_fails hZ _ _) (fun F9 B9 h => ?_)
                obtain ⟨e1, e2⟩ := h
                subst F9
                subst B9
                refine ev_goto 151 281 d_mo_readText_151 ?_
                refine ev_iinc_7 281 d_mo_readText_281 ?_
                refine ev_goto 284 119 d_mo_readText_284 ?_
                exact ev_eq (ih2 (q + 1) _ _ _ (by omega) (by omega) hkn) (h1 := by rw [n_i1]) (h3 := by rw [tx_s3 hn (n_eq (k + (q + 1)) mn c139 (by rw [nI_add]))])
      have M100 : ∀ (F1 : Nat → Int32) (o6 o7 o8 o9 o10 : Option Value), ¬ mn ≤ k → (256 ≤ fr + k ∧ F1 = mo_fl F 1 (nI (fr + k)) ∨ ¬ 256 ≤ fr + k ∧ F1 = F) → EV (mo_π l D cl_A kI kZ tl Z) m_readText (ev_E (mo_π l D cl_A kI kZ tl Z) 0 0 (mo_qv am kI kZ (fun F1 B1 => F1 = mo_fo F (tx_r (B 13) ii fr mn (mn + 1) 0) ∧ B1 = B))) 0 0 100 [some (.ref (am 60)), some (.int (nI ii)), some (.int (nI fr)), some (.int (nI mn)), some (.int (nI k)), some (.int (tx_b (B 13) ii (fr + k))), o6, o7, o8, o9, o10] [.int (tx_mr (tx_b (B 13) ii (fr + k)))] (mo_W mo_ci am kI kZ F1 B) := by
        intro F1 o6 o7 o8 o9 o10 hkn hF1
        refine ev_istore_6 100 d_mo_readText_100 ?_
        refine ev_iload_6 102 d_mo_readText_102 ?_
        refine ev_ifge 104 116 d_mo_readText_104 (fun c104 => ?_) (fun c104 => ?_)
        · refine ev_iconst_1 116 d_mo_readText_116 ?_
          refine ev_istore_7 117 d_mo_readText_117 ?_
          have hm3 : (tx_mr (tx_b (B 13) ii (fr + k))).toNatClampNeg ≤ 3 := by rcases tx_mr_in (tx_b (B 13) ii (fr + k)) with z | z | z | z | z <;> rw [z] <;> decide
          exact ev_eq (M119 4 0 o8 o9 o10 (by omega) (Nat.zero_le _) hkn) (h3 := by rw [tx_f0 hF1 c104])
        · refine ev_aload_0 107 d_mo_readText_107 ?_
          refine ev_iconst_4 108 d_mo_readText_108 ?_
          refine ev_iload_2 109 d_mo_readText_109 ?_
          refine ev_iload_4 110 d_mo_readText_110 ?_
          refine ev_iadd 112 d_mo_readText_112 ?_
          refine ev_topi (nI (fr + k)) (by rw [nI_add]) ?_
          refine mo_callv2 113 d_mo_readText_113 hZ kc_230 (mt_fails hZ _ _) (fun F9 B9 h => ?_)
          obtain ⟨e1, e2⟩ := h
          subst F9
          subst B9
          refine ev_iconst_1 116 d_mo_readText_116 ?_
          refine ev_istore_7 117 d_mo_readText_117 ?_
          have hm3 : (tx_mr (tx_b (B 13) ii (fr + k))).toNatClampNeg ≤ 3 := by rcases tx_mr_in (tx_b (B 13) ii (fr + k)) with z | z | z | z | z <;> rw [z] <;> decide
          exact ev_eq (M119 4 0 o8 o9 o10 (by omega) (Nat.zero_le _) hkn) (h3 := by rw [tx_f1 h0 hF1 c104])
      refine ev_iload_4 3 d_mo_readText_3 ?_
      refine ev_iload_3 5 d_mo_readText_5 ?_
      refine ev_icmpge 6 299 d_mo_readText_6 (fun c6 => ?_) (fun c6 => ?_)
      · refine ev_vret 299 d_mo_readText_299 rfl ?_
        exact ⟨_, _, rfl, rfl, by rw [hr, tx_r, if_pos (n_le mn k c6)]; rfl, rfl⟩
      · refine ev_aload_0 9 d_mo_readText_9 ?_
        refine mo_geti 10 54 d_mo_readText_10 lk_224 ?_
        refine ev_ifne 13 299 d_mo_readText_13 (fun c13 => ?_) (fun c13 => ?_)
        · exact absurd h0 c13
        · refine ev_aload_0 16 d_mo_readText_16 ?_
          refine ev_iload_1 17 d_mo_readText_17 ?_
          refine ev_iload_2 18 d_mo_readText_18 ?_
          refine ev_iload_4 19 d_mo_readText_19 ?_
          refine ev_iadd 21 d_mo_readText_21 ?_
          refine ev_topi (nI (fr + k)) (by rw [nI_add]) ?_
          refine mo_calli2 22 d_mo_readText_22 hZ kc_234 (mt_byteAt hZ (nI ii) _ (mo_bb hii _)) (fun y F1 B1 h => ?_)
          obtain ⟨hb, e2⟩ := h
          subst B1
          obtain ⟨hy, hF1⟩ := tx_f (by omega) hii (mo_bp0 h0 hb)
          subst hy
          refine ev_istore_5 25 d_mo_readText_25 ?_
          refine ev_iload_5 27 d_mo_readText_27 ?_
          refine ev_sipush (128) 29 d_mo_readText_29 (by decide) ?_
          refine ev_icmpge 32 39 d_mo_readText_32 (fun c32 => ?_) (fun c32 => ?_)
          · refine ev_iload_5 39 d_mo_readText_39 ?_
            refine ev_sipush (194) 41 d_mo_readText_41 (by decide) ?_
            refine ev_icmplt 44 59 d_mo_readText_44 (fun c44 => ?_) (fun c44 => ?_)
            · refine ev_iload_5 59 d_mo_readText_59 ?_
              refine ev_sipush (224) 61 d_mo_readText_61 (by decide) ?_
              refine ev_icmplt 64 79 d_mo_readText_64 (fun c64 => ?_) (fun c64 => ?_)
              · refine ev_iload_5 79 d_mo_readText_79 ?_
                refine ev_sipush (240) 81 d_mo_readText_81 (by decide) ?_
                refine ev_icmplt 84 99 d_mo_readText_84 (fun c84 => ?_) (fun c84 => ?_)
                · refine ev_iconst_m1 99 d_mo_readText_99 ?_
                  refine ev_topi (tx_mr (tx_b (B 13) ii (fr + k))) (Eq.symm (by rw [tx_mr, if_pos c32, if_neg (fun z => z.1 c44), if_neg (fun z => z.1 c64), if_neg (fun z => z.1 c84)])) ?_
                  exact M100 F1 o6 o7 o8 o9 o10 (fun z => c6 ((nI_leI (by omega) (by omega)).mpr z)) hF1
                · refine ev_iload_5 87 d_mo_readText_87 ?_
                  refine ev_sipush (244) 89 d_mo_readText_89 (by decide) ?_
                  refine ev_icmpgt 92 99 d_mo_readText_92 (fun c92 => ?_) (fun c92 => ?_)
                  · refine ev_iconst_m1 99 d_mo_readText_99 ?_
                    refine ev_topi (tx_mr (tx_b (B 13) ii (fr + k))) (Eq.symm (by rw [tx_mr, if_pos c32, if_neg (fun z => z.1 c44), if_neg (fun z => z.1 c64), if_neg (fun z => z.2 c92)])) ?_
                    exact M100 F1 o6 o7 o8 o9 o10 (fun z => c6 ((nI_leI (by omega) (by omega)).mpr z)) hF1
                  · refine ev_iconst_3 95 d_mo_readText_95 ?_
                    refine ev_goto 96 100 d_mo_readText_96 ?_
                    refine ev_topi (tx_mr (tx_b (B 13) ii (fr + k))) (Eq.symm (by rw [tx_mr, if_pos c32, if_neg (fun z => z.1 c44), if_neg (fun z => z.1 c64), if_pos ⟨c84, c92⟩])) ?_
                    exact M100 F1 o6 o7 o8 o9 o10 (fun z => c6 ((nI_leI (by omega) (by omega)).mpr z)) hF1
              · refine ev_iload_5 67 d_mo_readText_67 ?_
                refine ev_sipush (239) 69 d_mo_readText_69 (by decide) ?_
                refine ev_icmpgt 72 79 d_mo_readText_72 (fun c72 => ?_) (fun c72 => ?_)
                · refine ev_iload_5 79 d_mo_readText_79 ?_
                  refine ev_sipush (240) 81 d_mo_readText_81 (by decide) ?_
                  refine ev_icmplt 84 99 d_mo_readText_84 (fun c84 => ?_) (fun c84 => ?_)
                  · refine ev_iconst_m1 99 d_mo_readText_99 ?_
                    refine ev_topi (tx_mr (tx_b (B 13) ii (fr + k))) (Eq.symm (by rw [tx_mr, if_pos c32, if_neg (fun z => z.1 c44), if_neg (fun z => z.2 c72), if_neg (fun z => z.1 c84)])) ?_
                    exact M100 F1 o6 o7 o8 o9 o10 (fun z => c6 ((nI_leI (by omega) (by omega)).mpr z)) hF1
                  · refine ev_iload_5 87 d_mo_readText_87 ?_
                    refine ev_sipush (244) 89 d_mo_readText_89 (by decide) ?_
                    refine ev_icmpgt 92 99 d_mo_readText_92 (fun c92 => ?_) (fun c92 => ?_)
                    · refine ev_iconst_m1 99 d_mo_readText_99 ?_
                      refine ev_topi (tx_mr (tx_b (B 13) ii (fr + k))) (Eq.symm (by rw [tx_mr, if_pos c32, if_neg (fun z => z.1 c44), if_neg (fun z => z.2 c72), if_neg (fun z => z.2 c92)])) ?_
                      exact M100 F1 o6 o7 o8 o9 o10 (fun z => c6 ((nI_leI (by omega) (by omega)).mpr z)) hF1
                    · refine ev_iconst_3 95 d_mo_readText_95 ?_
                      refine ev_goto 96 100 d_mo_readText_96 ?_
                      refine ev_topi (tx_mr (tx_b (B 13) ii (fr + k))) (Eq.symm (by rw [tx_mr, if_pos c32, if_neg (fun z => z.1 c44), if_neg (fun z => z.2 c72), if_pos ⟨c84, c92⟩])) ?_
                      exact M100 F1 o6 o7 o8 o9 o10 (fun z => c6 ((nI_leI (by omega) (by omega)).mpr z)) hF1
                · refine ev_iconst_2 75 d_mo_readText_75 ?_
                  refine ev_goto 76 100 d_mo_readText_76 ?_
                  refine ev_topi (tx_mr (tx_b (B 13) ii (fr + k))) (Eq.symm (by rw [tx_mr, if_pos c32, if_neg (fun z => z.1 c44), if_pos ⟨c64, c72⟩])) ?_
                  exact M100 F1 o6 o7 o8 o9 o10 (fun z => c6 ((nI_leI (by omega) (by omega)).mpr z)) hF1
            · refine ev_iload_5 47 d_mo_readText_47 ?_
              refine ev_sipush (223) 49 d_mo_readText_49 (by decide) ?_
              refine ev_icmpgt 52 59 d_mo_readText_52 (fun c52 => ?_) (fun c52 => ?_)
              · refine ev_iload_5 59 d_mo_readText_59 ?_
                refine ev_sipush (224) 61 d_mo_readText_61 (by decide) ?_
                refine ev_icmplt 64 79 d_mo_readText_64 (fun c64 => ?_) (fun c64 => ?_)
                · refine ev_iload_5 79 d_mo_readText_79 ?_
                  refine ev_sipush (240) 81 d_mo_readText_81 (by decide) ?_
                  refine ev_icmplt 84 99 d_mo_readText_84 (fun c84 => ?_) (fun c84 => ?_)
                  · refine ev_iconst_m1 99 d_mo_readText_99 ?_
                    refine ev_topi (tx_mr (tx_b (B 13) ii (fr + k))) (Eq.symm (by rw [tx_mr, if_pos c32, if_neg (fun z => z.2 c52), if_neg (fun z => z.1 c64), if_neg (fun z => z.1 c84)])) ?_
                    exact M100 F1 o6 o7 o8 o9 o10 (fun z => c6 ((nI_leI (by omega) (by omega)).mpr z)) hF1
                  · refine ev_iload_5 87 d_mo_readText_87 ?_
                    refine ev_sipush (244) 89 d_mo_readText_89 (by decide) ?_
                    refine ev_icmpgt 92 99 d_mo_readText_92 (fun c92 => ?_) (fun c92 => ?_)
                    · refine ev_iconst_m1 99 d_mo_readText_99 ?_
                      refine ev_topi (tx_mr (tx_b (B 13) ii (fr + k))) (Eq.symm (by rw [tx_mr, if_pos c32, if_neg (fun z => z.2 c52), if_neg (fun z => z.1 c64), if_neg (fun z => z.2 c92)])) ?_
                      exact M100 F1 o6 o7 o8 o9 o10 (fun z => c6 ((nI_leI (by omega) (by omega)).mpr z)) hF1
                    · refine ev_iconst_3 95 d_mo_readText_95 ?_
                      refine ev_goto 96 100 d_mo_readText_96 ?_
                      refine ev_topi (tx_mr (tx_b (B 13) ii (fr + k))) (Eq.symm (by rw [tx_mr, if_pos c32, if_neg (fun z => z.2 c52), if_neg (fun z => z.1 c64), if_pos ⟨c84, c92⟩])) ?_
                      exact M100 F1 o6 o7 o8 o9 o10 (fun z => c6 ((nI_leI (by omega) (by omega)).mpr z)) hF1
                · refine ev_iload_5 67 d_mo_readText_67 ?_
                  refine ev_sipush (239) 69 d_mo_readText_69 (by decide) ?_
                  refine ev_icmpgt 72 79 d_mo_readText_72 (fun c72 => ?_) (fun c72 => ?_)
                  · refine ev_iload_5 79 d_mo_readText_79 ?_
                    refine ev_sipush (240) 81 d_mo_readText_81 (by decide) ?_
                    refine ev_icmplt 84 99 d_mo_readText_84 (fun c84 => ?_) (fun c84 => ?_)
                    · refine ev_iconst_m1 99 d_mo_readText_99 ?_
                      refine ev_topi (tx_mr (tx_b (B 13) ii (fr + k))) (Eq.symm (by rw [tx_mr, if_pos c32, if_neg (fun z => z.2 c52), if_neg (fun z => z.2 c72), if_neg (fun z => z.1 c84)])) ?_
                      exact M100 F1 o6 o7 o8 o9 o10 (fun z => c6 ((nI_leI (by omega) (by omega)).mpr z)) hF1
                    · refine ev_iload_5 87 d_mo_readText_87 ?_
                      refine ev_sipush (244) 89 d_mo_readText_89 (by decide) ?_
                      refine ev_icmpgt 92 99 d_mo_readText_92 (fun c92 => ?_) (fun c92 => ?_)
                      · refine ev_iconst_m1 99 d_mo_readText_99 ?_
                        refine ev_topi (tx_mr (tx_b (B 13) ii (fr + k))) (Eq.symm (by rw [tx_mr, if_pos c32, if_neg (fun z => z.2 c52), if_neg (fun z => z.2 c72), if_neg (fun z => z.2 c92)])) ?_
                        exact M100 F1 o6 o7 o8 o9 o10 (fun z => c6 ((nI_leI (by omega) (by omega)).mpr z)) hF1
                      · refine ev_iconst_3 95 d_mo_readText_95 ?_
                        refine ev_goto 96 100 d_mo_readText_96 ?_
                        refine ev_topi (tx_mr (tx_b (B 13) ii (fr + k))) (Eq.symm (by rw [tx_mr, if_pos c32, if_neg (fun z => z.2 c52), if_neg (fun z => z.2 c72), if_pos ⟨c84, c92⟩])) ?_
                        exact M100 F1 o6 o7 o8 o9 o10 (fun z => c6 ((nI_leI (by omega) (by omega)).mpr z)) hF1
                  · refine ev_iconst_2 75 d_mo_readText_75 ?_
                    refine ev_goto 76 100 d_mo_readText_76 ?_
                    refine ev_topi (tx_mr (tx_b (B 13) ii (fr + k))) (Eq.symm (by rw [tx_mr, if_pos c32, if_neg (fun z => z.2 c52), if_pos ⟨c64, c72⟩])) ?_
                    exact M100 F1 o6 o7 o8 o9 o10 (fun z => c6 ((nI_leI (by omega) (by omega)).mpr z)) hF1
              · refine ev_iconst_1 55 d_mo_readText_55 ?_
                refine ev_goto 56 100 d_mo_readText_56 ?_
                refine ev_topi (tx_mr (tx_b (B 13) ii (fr + k))) (Eq.symm (by rw [tx_mr, if_pos c32, if_pos ⟨c44, c52⟩])) ?_
                exact M100 F1 o6 o7 o8 o9 o10 (fun z => c6 ((nI_leI (by omega) (by omega)).mpr z)) hF1
          · refine ev_iconst_0 35 d_mo_readText_35 ?_
            refine ev_goto 36 100 d_mo_readText_36 ?_
            refine ev_topi (tx_mr (tx_b (B 13) ii (fr + k))) (Eq.symm (by rw [tx_mr, if_neg c32])) ?_
            exact M100 F1 o6 o7 o8 o9 o10 (fun z => c6 ((nI_leI (by omega) (by omega)).mpr z)) hF1
  refine ev_iconst_0 0 d_mo_readText_0 ?_
  refine ev_istore_4 1 d_mo_readText_1 ?_
  exact L3 (mn + 1) 0 _ _ _ _ _ _ (by omega) (by omega) rfl
end
section
theorem d_mo_layout_0 : decode c_mo_layout 0 = .ok (.aload_n 0, 1) := by decide +kernel
theorem d_mo_layout_1 : decode c_mo_layout 1 = .ok (.aload_n 0, 1) := by decide +kernel
theorem d_mo_layout_2 : decode c_mo_layout 2 = .ok (.iload_n 1, 1) := by decide +kernel
theorem d_mo_layout_3 : decode c_mo_layout 3 = .ok (.invokevirtual 150, 3) := by decide +kernel
theorem d_mo_layout_6 : decode c_mo_layout 6 = .ok (.ifCond .ne 7, 3) := by decide +kernel
theorem d_mo_layout_9 : decode c_mo_layout 9 = .ok (.iconst 1, 1) := by decide +kernel
theorem d_mo_layout_10 : decode c_mo_layout 10 = .ok (.goto 24, 3) := by decide +kernel
theorem d_mo_layout_13 : decode c_mo_layout 13 = .ok (.iload_n 2, 1) := by decide +kernel
theorem d_mo_layout_14 : decode c_mo_layout 14 = .ok (.ifCond .lt 15, 3) := by decide +kernel
theorem d_mo_layout_17 : decode c_mo_layout 17 = .ok (.iload_n 2, 1) := by decide +kernel
theorem d_mo_layout_18 : decode c_mo_layout 18 = .ok (.iconst 5, 1) := by decide +kernel
theorem d_mo_layout_19 : decode c_mo_layout 19 = .ok (.aload_n 0, 1) := by decide +kernel
theorem d_mo_layout_20 : decode c_mo_layout 20 = .ok (.getfield 25, 3) := by decide +kernel
theorem d_mo_layout_23 : decode c_mo_layout 23 = .ok (.iload_n 1, 1) := by decide +kernel
theorem d_mo_layout_24 : decode c_mo_layout 24 = .ok (.iaload, 1) := by decide +kernel
theorem d_mo_layout_25 : decode c_mo_layout 25 = .ok (.iadd, 1) := by decide +kernel
theorem d_mo_layout_26 : decode c_mo_layout 26 = .ok (.if_icmp .lt 7, 3) := by decide +kernel
theorem d_mo_layout_29 : decode c_mo_layout 29 = .ok (.iconst 2, 1) := by decide +kernel
theorem d_mo_layout_30 : decode c_mo_layout 30 = .ok (.goto 4, 3) := by decide +kernel
theorem d_mo_layout_33 : decode c_mo_layout 33 = .ok (.iconst 0, 1) := by decide +kernel
theorem d_mo_layout_34 : decode c_mo_layout 34 = .ok (.invokevirtual 157, 3) := by decide +kernel
theorem d_mo_layout_37 : decode c_mo_layout 37 = .ok (.ifCond .eq 5, 3) := by decide +kernel
theorem d_mo_layout_40 : decode c_mo_layout 40 = .ok (.iconst 0, 1) := by decide +kernel
theorem d_mo_layout_41 : decode c_mo_layout 41 = .ok (.ireturn, 1) := by decide +kernel
theorem d_mo_layout_42 : decode c_mo_layout 42 = .ok (.iload_n 2, 1) := by decide +kernel
theorem d_mo_layout_43 : decode c_mo_layout 43 = .ok (.ifCond .ne 12, 3) := by decide +kernel
theorem d_mo_layout_46 : decode c_mo_layout 46 = .ok (.aload_n 0, 1) := by decide +kernel
theorem d_mo_layout_47 : decode c_mo_layout 47 = .ok (.getfield 7, 3) := by decide +kernel
theorem d_mo_layout_50 : decode c_mo_layout 50 = .ok (.iload_n 1, 1) := by decide +kernel
theorem d_mo_layout_51 : decode c_mo_layout 51 = .ok (.iaload, 1) := by decide +kernel
theorem d_mo_layout_52 : decode c_mo_layout 52 = .ok (.goto 72, 3) := by decide +kernel
theorem d_mo_layout_55 : decode c_mo_layout 55 = .ok (.iload_n 2, 1) := by decide +kernel
theorem d_mo_layout_56 : decode c_mo_layout 56 = .ok (.iconst 1, 1) := by decide +kernel
theorem d_mo_layout_57 : decode c_mo_layout 57 = .ok (.if_icmp .ne 12, 3) := by decide +kernel
theorem d_mo_layout_60 : decode c_mo_layout 60 = .ok (.aload_n 0, 1) := by decide +kernel
theorem d_mo_layout_61 : decode c_mo_layout 61 = .ok (.getfield 16, 3) := by decide +kernel
theorem d_mo_layout_64 : decode c_mo_layout 64 = .ok (.iload_n 1, 1) := by decide +kernel
theorem d_mo_layout_65 : decode c_mo_layout 65 = .ok (.iaload, 1) := by decide +kernel
theorem d_mo_layout_66 : decode c_mo_layout 66 = .ok (.goto 58, 3) := by decide +kernel
theorem d_mo_layout_69 : decode c_mo_layout 69 = .ok (.iload_n 2, 1) := by decide +kernel
theorem d_mo_layout_70 : decode c_mo_layout 70 = .ok (.iconst 2, 1) := by decide +kernel
theorem d_mo_layout_71 : decode c_mo_layout 71 = .ok (.if_icmp .ne 12, 3) := by decide +kernel
theorem d_mo_layout_74 : decode c_mo_layout 74 = .ok (.aload_n 0, 1) := by decide +kernel
theorem d_mo_layout_75 : decode c_mo_layout 75 = .ok (.getfield 19, 3) := by decide +kernel
theorem d_mo_layout_78 : decode c_mo_layout 78 = .ok (.iload_n 1, 1) := by decide +kernel
theorem d_mo_layout_79 : decode c_mo_layout 79 = .ok (.iaload, 1) := by decide +kernel
theorem d_mo_layout_80 : decode c_mo_layout 80 = .ok (.goto 44, 3) := by decide +kernel
theorem d_mo_layout_83 : decode c_mo_layout 83 = .ok (.iload_n 2, 1) := by decide +kernel
theorem d_mo_layout_84 : decode c_mo_layout 84 = .ok (.iconst 3, 1) := by decide +kernel
theorem d_mo_layout_85 : decode c_mo_layout 85 = .ok (.if_icmp .ne 12, 3) := by decide +kernel
theorem d_mo_layout_88 : decode c_mo_layout 88 = .ok (.aload_n 0, 1) := by decide +kernel
theorem d_mo_layout_89 : decode c_mo_layout 89 = .ok (.getfield 22, 3) := by decide +kernel
theorem d_mo_layout_92 : decode c_mo_layout 92 = .ok (.iload_n 1, 1) := by decide +kernel
theorem d_mo_layout_93 : decode c_mo_layout 93 = .ok (.iaload, 1) := by decide +kernel
theorem d_mo_layout_94 : decode c_mo_layout 94 = .ok (.goto 30, 3) := by decide +kernel
theorem d_mo_layout_97 : decode c_mo_layout 97 = .ok (.iload_n 2, 1) := by decide +kernel
theorem d_mo_layout_98 : decode c_mo_layout 98 = .ok (.iconst 4, 1) := by decide +kernel
theorem d_mo_layout_99 : decode c_mo_layout 99 = .ok (.if_icmp .ne 12, 3) := by decide +kernel
theorem d_mo_layout_102 : decode c_mo_layout 102 = .ok (.aload_n 0, 1) := by decide +kernel
theorem d_mo_layout_103 : decode c_mo_layout 103 = .ok (.getfield 25, 3) := by decide +kernel
theorem d_mo_layout_106 : decode c_mo_layout 106 = .ok (.iload_n 1, 1) := by decide +kernel
theorem d_mo_layout_107 : decode c_mo_layout 107 = .ok (.iaload, 1) := by decide +kernel
theorem d_mo_layout_108 : decode c_mo_layout 108 = .ok (.goto 16, 3) := by decide +kernel
theorem d_mo_layout_111 : decode c_mo_layout 111 = .ok (.aload_n 0, 1) := by decide +kernel
theorem d_mo_layout_112 : decode c_mo_layout 112 = .ok (.getfield 31, 3) := by decide +kernel
theorem d_mo_layout_115 : decode c_mo_layout 115 = .ok (.bipush 6, 2) := by decide +kernel
theorem d_mo_layout_117 : decode c_mo_layout 117 = .ok (.iload_n 1, 1) := by decide +kernel
theorem d_mo_layout_118 : decode c_mo_layout 118 = .ok (.imul, 1) := by decide +kernel
theorem d_mo_layout_119 : decode c_mo_layout 119 = .ok (.iload_n 2, 1) := by decide +kernel
theorem d_mo_layout_120 : decode c_mo_layout 120 = .ok (.iadd, 1) := by decide +kernel
theorem d_mo_layout_121 : decode c_mo_layout 121 = .ok (.iconst 5, 1) := by decide +kernel
theorem d_mo_layout_122 : decode c_mo_layout 122 = .ok (.isub, 1) := by decide +kernel
theorem d_mo_layout_123 : decode c_mo_layout 123 = .ok (.iaload, 1) := by decide +kernel
theorem d_mo_layout_124 : decode c_mo_layout 124 = .ok (.ireturn, 1) := by decide +kernel
theorem d_mo_lays_0 : decode c_mo_lays 0 = .ok (.iload_n 1, 1) := by decide +kernel
theorem d_mo_lays_1 : decode c_mo_lays 1 = .ok (.bipush 9, 2) := by decide +kernel
theorem d_mo_lays_3 : decode c_mo_lays 3 = .ok (.if_icmp .eq 9, 3) := by decide +kernel
theorem d_mo_lays_6 : decode c_mo_lays 6 = .ok (.iload_n 1, 1) := by decide +kernel
theorem d_mo_lays_7 : decode c_mo_lays 7 = .ok (.bipush 10, 2) := by decide +kernel
theorem d_mo_lays_9 : decode c_mo_lays 9 = .ok (.if_icmp .ne 7, 3) := by decide +kernel
theorem d_mo_lays_12 : decode c_mo_lays 12 = .ok (.iconst 1, 1) := by decide +kernel
theorem d_mo_lays_13 : decode c_mo_lays 13 = .ok (.goto 4, 3) := by decide +kernel
theorem d_mo_lays_16 : decode c_mo_lays 16 = .ok (.iconst 0, 1) := by decide +kernel
theorem d_mo_lays_17 : decode c_mo_lays 17 = .ok (.istore_n 3, 1) := by decide +kernel
theorem d_mo_lays_18 : decode c_mo_lays 18 = .ok (.iload_n 1, 1) := by decide +kernel
theorem d_mo_lays_19 : decode c_mo_lays 19 = .ok (.ifCond .lt 79, 3) := by decide +kernel
theorem d_mo_lays_22 : decode c_mo_lays 22 = .ok (.iload_n 1, 1) := by decide +kernel
theorem d_mo_lays_23 : decode c_mo_lays 23 = .ok (.bipush 12, 2) := by decide +kernel
theorem d_mo_lays_25 : decode c_mo_lays 25 = .ok (.if_icmp .gt 73, 3) := by decide +kernel
theorem d_mo_lays_28 : decode c_mo_lays 28 = .ok (.iload_n 3, 1) := by decide +kernel
theorem d_mo_lays_29 : decode c_mo_lays 29 = .ok (.ifCond .eq 14, 3) := by decide +kernel
theorem d_mo_lays_32 : decode c_mo_lays 32 = .ok (.aload_n 0, 1) := by decide +kernel
theorem d_mo_lays_33 : decode c_mo_lays 33 = .ok (.getfield 154, 3) := by decide +kernel
theorem d_mo_lays_36 : decode c_mo_lays 36 = .ok (.iconst 1, 1) := by decide +kernel
theorem d_mo_lays_37 : decode c_mo_lays 37 = .ok (.if_icmp .lt 61, 3) := by decide +kernel
theorem d_mo_lays_40 : decode c_mo_lays 40 = .ok (.goto 21, 3) := by decide +kernel
theorem d_mo_lays_43 : decode c_mo_lays 43 = .ok (.aload_n 0, 1) := by decide +kernel
theorem d_mo_lays_44 : decode c_mo_lays 44 = .ok (.getfield 154, 3) := by decide +kernel
theorem d_mo_lays_47 : decode c_mo_lays 47 = .ok (.iload_n 1, 1) := by decide +kernel
theorem d_mo_lays_48 : decode c_mo_lays 48 = .ok (.bipush 8, 2) := by decide +kernel
theorem d_mo_lays_50 : decode c_mo_lays 50 = .ok (.if_icmp .ne 7, 3) := by decide +kernel
theorem d_mo_lays_53 : decode c_mo_lays 53 = .ok (.iconst 1, 1) := by decide +kernel
theorem d_mo_lays_54 : decode c_mo_lays 54 = .ok (.goto 4, 3) := by decide +kernel
theorem d_mo_lays_57 : decode c_mo_lays 57 = .ok (.iconst 0, 1) := by decide +kernel
theorem d_mo_lays_58 : decode c_mo_lays 58 = .ok (.if_icmp .ne 40, 3) := by decide +kernel
theorem d_mo_lays_61 : decode c_mo_lays 61 = .ok (.iload_n 1, 1) := by decide +kernel
theorem d_mo_lays_62 : decode c_mo_lays 62 = .ok (.bipush 7, 2) := by decide +kernel
theorem d_mo_lays_64 : decode c_mo_lays 64 = .ok (.if_icmp .ne 15, 3) := by decide +kernel
theorem d_mo_lays_67 : decode c_mo_lays 67 = .ok (.iload_n 2, 1) := by decide +kernel
theorem d_mo_lays_68 : decode c_mo_lays 68 = .ok (.iconst 1, 1) := by decide +kernel
theorem d_mo_lays_69 : decode c_mo_lays 69 = .ok (.if_icmp .lt 29, 3) := by decide +kernel
theorem d_mo_lays_72 : decode c_mo_lays 72 = .ok (.iload_n 2, 1) := by decide +kernel
theorem d_mo_lays_73 : decode c_mo_lays 73 = .ok (.sipush 200, 3) := by decide +kernel
theorem d_mo_lays_76 : decode c_mo_lays 76 = .ok (.if_icmp .gt 22, 3) := by decide +kernel
theorem d_mo_lays_79 : decode c_mo_lays 79 = .ok (.iload_n 1, 1) := by decide +kernel
theorem d_mo_lays_80 : decode c_mo_lays 80 = .ok (.bipush 11, 2) := by decide +kernel
theorem d_mo_lays_82 : decode c_mo_lays 82 = .ok (.if_icmp .lt 12, 3) := by decide +kernel
theorem d_mo_lays_85 : decode c_mo_lays 85 = .ok (.iload_n 2, 1) := by decide +kernel
theorem d_mo_lays_86 : decode c_mo_lays 86 = .ok (.ifCond .lt 12, 3) := by decide +kernel
theorem d_mo_lays_89 : decode c_mo_lays 89 = .ok (.iload_n 2, 1) := by decide +kernel
theorem d_mo_lays_90 : decode c_mo_lays 90 = .ok (.iconst 3, 1) := by decide +kernel
theorem d_mo_lays_91 : decode c_mo_lays 91 = .ok (.if_icmp .gt 7, 3) := by decide +kernel
theorem d_mo_lays_94 : decode c_mo_lays 94 = .ok (.iconst 1, 1) := by decide +kernel
theorem d_mo_lays_95 : decode c_mo_lays 95 = .ok (.goto 4, 3) := by decide +kernel
theorem d_mo_lays_98 : decode c_mo_lays 98 = .ok (.iconst 0, 1) := by decide +kernel
theorem d_mo_lays_99 : decode c_mo_lays 99 = .ok (.istore 4, 2) := by decide +kernel
theorem d_mo_lays_101 : decode c_mo_lays 101 = .ok (.iload 4, 2) := by decide +kernel
theorem d_mo_lays_103 : decode c_mo_lays 103 = .ok (.ifCond .ne 5, 3) := by decide +kernel
theorem d_mo_lays_106 : decode c_mo_lays 106 = .ok (.iconst 0, 1) := by decide +kernel
theorem d_mo_lays_107 : decode c_mo_lays 107 = .ok (.ireturn, 1) := by decide +kernel
theorem d_mo_lays_108 : decode c_mo_lays 108 = .ok (.aload_n 0, 1) := by decide +kernel
theorem d_mo_lays_109 : decode c_mo_lays 109 = .ok (.iconst 1, 1) := by decide +kernel
theorem d_mo_lays_110 : decode c_mo_lays 110 = .ok (.putfield 160, 3) := by decide +kernel
theorem d_mo_lays_113 : decode c_mo_lays 113 = .ok (.aload_n 0, 1) := by decide +kernel
theorem d_mo_lays_114 : decode c_mo_lays 114 = .ok (.iload_n 1, 1) := by decide +kernel
theorem d_mo_lays_115 : decode c_mo_lays 115 = .ok (.bipush 6, 2) := by decide +kernel
theorem d_mo_lays_117 : decode c_mo_lays 117 = .ok (.if_icmp .eq 9, 3) := by decide +kernel
theorem d_mo_lays_120 : decode c_mo_lays 120 = .ok (.iload_n 1, 1) := by decide +kernel
theorem d_mo_lays_121 : decode c_mo_lays 121 = .ok (.bipush 8, 2) := by decide +kernel
theorem d_mo_lays_123 : decode c_mo_lays 123 = .ok (.if_icmp .ne 7, 3) := by decide +kernel
theorem d_mo_lays_126 : decode c_mo_lays 126 = .ok (.iconst 2, 1) := by decide +kernel
theorem d_mo_lays_127 : decode c_mo_lays 127 = .ok (.goto 7, 3) := by decide +kernel
theorem d_mo_lays_130 : decode c_mo_lays 130 = .ok (.iload_n 1, 1) := by decide +kernel
theorem d_mo_lays_131 : decode c_mo_lays 131 = .ok (.invokestatic 163, 3) := by decide +kernel
theorem d_mo_lays_134 : decode c_mo_lays 134 = .ok (.putfield 167, 3) := by decide +kernel
theorem d_mo_lays_137 : decode c_mo_lays 137 = .ok (.aload_n 0, 1) := by decide +kernel
theorem d_mo_lays_138 : decode c_mo_lays 138 = .ok (.iload_n 1, 1) := by decide +kernel
theorem d_mo_lays_139 : decode c_mo_lays 139 = .ok (.invokestatic 163, 3) := by decide +kernel
theorem d_mo_lays_142 : decode c_mo_lays 142 = .ok (.putfield 170, 3) := by decide +kernel
theorem d_mo_lays_145 : decode c_mo_lays 145 = .ok (.iload_n 3, 1) := by decide +kernel
theorem d_mo_lays_146 : decode c_mo_lays 146 = .ok (.ifCond .eq 68, 3) := by decide +kernel
theorem d_mo_lays_149 : decode c_mo_lays 149 = .ok (.aload_n 0, 1) := by decide +kernel
theorem d_mo_lays_150 : decode c_mo_lays 150 = .ok (.iconst 1, 1) := by decide +kernel
theorem d_mo_lays_151 : decode c_mo_lays 151 = .ok (.putfield 167, 3) := by decide +kernel
theorem d_mo_lays_154 : decode c_mo_lays 154 = .ok (.iconst 0, 1) := by decide +kernel
theorem d_mo_lays_155 : decode c_mo_lays 155 = .ok (.istore 5, 2) := by decide +kernel
theorem d_mo_lays_157 : decode c_mo_lays 157 = .ok (.iload 5, 2) := by decide +kernel
theorem d_mo_lays_159 : decode c_mo_lays 159 = .ok (.aload_n 0, 1) := by decide +kernel
theorem d_mo_lays_160 : decode c_mo_lays 160 = .ok (.getfield 154, 3) := by decide +kernel
theorem d_mo_lays_163 : decode c_mo_lays 163 = .ok (.if_icmp .ge 51, 3) := by decide +kernel
theorem d_mo_lays_166 : decode c_mo_lays 166 = .ok (.aload_n 0, 1) := by decide +kernel
theorem d_mo_lays_167 : decode c_mo_lays 167 = .ok (.aload_n 0, 1) := by decide +kernel
theorem d_mo_lays_168 : decode c_mo_lays 168 = .ok (.getfield 19, 3) := by decide +kernel
theorem d_mo_lays_171 : decode c_mo_lays 171 = .ok (.aload_n 0, 1) := by decide +kernel
theorem d_mo_lays_172 : decode c_mo_lays 172 = .ok (.getfield 34, 3) := by decide +kernel
theorem d_mo_lays_175 : decode c_mo_lays 175 = .ok (.iload 5, 2) := by decide +kernel
theorem d_mo_lays_177 : decode c_mo_lays 177 = .ok (.iaload, 1) := by decide +kernel
theorem d_mo_lays_178 : decode c_mo_lays 178 = .ok (.iaload, 1) := by decide +kernel
theorem d_mo_lays_179 : decode c_mo_lays 179 = .ok (.aload_n 0, 1) := by decide +kernel
theorem d_mo_lays_180 : decode c_mo_lays 180 = .ok (.getfield 167, 3) := by decide +kernel
theorem d_mo_lays_183 : decode c_mo_lays 183 = .ok (.if_icmp .le 18, 3) := by decide +kernel
theorem d_mo_lays_186 : decode c_mo_lays 186 = .ok (.aload_n 0, 1) := by decide +kernel
theorem d_mo_lays_187 : decode c_mo_lays 187 = .ok (.getfield 19, 3) := by decide +kernel
theorem d_mo_lays_190 : decode c_mo_lays 190 = .ok (.aload_n 0, 1) := by decide +kernel
theorem d_mo_lays_191 : decode c_mo_lays 191 = .ok (.getfield 34, 3) := by decide +kernel
theorem d_mo_lays_194 : decode c_mo_lays 194 = .ok (.iload 5, 2) := by decide +kernel
theorem d_mo_lays_196 : decode c_mo_lays 196 = .ok (.iaload, 1) := by decide +kernel
theorem d_mo_lays_197 : decode c_mo_lays 197 = .ok (.iaload, 1) := by decide +kernel
theorem d_mo_lays_198 : decode c_mo_lays 198 = .ok (.goto 7, 3) := by decide +kernel
theorem d_mo_lays_201 : decode c_mo_lays 201 = .ok (.aload_n 0, 1) := by decide +kernel
theorem d_mo_lays_202 : decode c_mo_lays 202 = .ok (.getfield 167, 3) := by decide +kernel
theorem d_mo_lays_205 : decode c_mo_lays 205 = .ok (.putfield 167, 3) := by decide +kernel
theorem d_mo_lays_208 : decode c_mo_lays 208 = .ok (.iinc 5 1, 3) := by decide +kernel
theorem d_mo_lays_211 : decode c_mo_lays 211 = .ok (.goto (-54), 3) := by decide +kernel
theorem d_mo_lays_214 : decode c_mo_lays 214 = .ok (.iconst 0, 1) := by decide +kernel
theorem d_mo_lays_215 : decode c_mo_lays 215 = .ok (.istore 5, 2) := by decide +kernel
theorem d_mo_lays_217 : decode c_mo_lays 217 = .ok (.iconst 0, 1) := by decide +kernel
theorem d_mo_lays_218 : decode c_mo_lays 218 = .ok (.istore 6, 2) := by decide +kernel
theorem d_mo_lays_220 : decode c_mo_lays 220 = .ok (.iload 6, 2) := by decide +kernel
theorem d_mo_lays_222 : decode c_mo_lays 222 = .ok (.aload_n 0, 1) := by decide +kernel
theorem d_mo_lays_223 : decode c_mo_lays 223 = .ok (.getfield 154, 3) := by decide +kernel
theorem d_mo_lays_226 : decode c_mo_lays 226 = .ok (.if_icmp .ge 135, 3) := by decide +kernel
theorem d_mo_lays_229 : decode c_mo_lays 229 = .ok (.aload_n 0, 1) := by decide +kernel
theorem d_mo_lays_230 : decode c_mo_lays 230 = .ok (.getfield 34, 3) := by decide +kernel
theorem d_mo_lays_233 : decode c_mo_lays 233 = .ok (.iload 6, 2) := by decide +kernel
theorem d_mo_lays_235 : decode c_mo_lays 235 = .ok (.iaload, 1) := by decide +kernel
theorem d_mo_lays_236 : decode c_mo_lays 236 = .ok (.istore 7, 2) := by decide +kernel
theorem d_mo_lays_238 : decode c_mo_lays 238 = .ok (.aload_n 0, 1) := by decide +kernel
theorem d_mo_lays_239 : decode c_mo_lays 239 = .ok (.aload_n 0, 1) := by decide +kernel
theorem d_mo_lays_240 : decode c_mo_lays 240 = .ok (.getfield 22, 3) := by decide +kernel
theorem d_mo_lays_243 : decode c_mo_lays 243 = .ok (.iload 7, 2) := by decide +kernel
theorem d_mo_lays_245 : decode c_mo_lays 245 = .ok (.iaload, 1) := by decide +kernel
theorem d_mo_lays_246 : decode c_mo_lays 246 = .ok (.iconst 1, 1) := by decide +kernel
theorem d_mo_lays_247 : decode c_mo_lays 247 = .ok (.iadd, 1) := by decide +kernel
theorem d_mo_lays_248 : decode c_mo_lays 248 = .ok (.aload_n 0, 1) := by decide +kernel
theorem d_mo_lays_249 : decode c_mo_lays 249 = .ok (.getfield 160, 3) := by decide +kernel
theorem d_mo_lays_252 : decode c_mo_lays 252 = .ok (.if_icmp .le 15, 3) := by decide +kernel
theorem d_mo_lays_255 : decode c_mo_lays 255 = .ok (.aload_n 0, 1) := by decide +kernel
theorem d_mo_lays_256 : decode c_mo_lays 256 = .ok (.getfield 22, 3) := by decide +kernel
theorem d_mo_lays_259 : decode c_mo_lays 259 = .ok (.iload 7, 2) := by decide +kernel
theorem d_mo_lays_261 : decode c_mo_lays 261 = .ok (.iaload, 1) := by decide +kernel
theorem d_mo_lays_262 : decode c_mo_lays 262 = .ok (.iconst 1, 1) := by decide +kernel
theorem d_mo_lays_263 : decode c_mo_lays 263 = .ok (.iadd, 1) := by decide +kernel
theorem d_mo_lays_264 : decode c_mo_lays 264 = .ok (.goto 7, 3) := by decide +kernel
theorem d_mo_lays_267 : decode c_mo_lays 267 = .ok (.aload_n 0, 1) := by decide +kernel
theorem d_mo_lays_268 : decode c_mo_lays 268 = .ok (.getfield 160, 3) := by decide +kernel
theorem d_mo_lays_271 : decode c_mo_lays 271 = .ok (.putfield 160, 3) := by decide +kernel
theorem d_mo_lays_274 : decode c_mo_lays 274 = .ok (.aload_n 0, 1) := by decide +kernel
theorem d_mo_lays_275 : decode c_mo_lays 275 = .ok (.getfield 138, 3) := by decide +kernel
theorem d_mo_lays_278 : decode c_mo_lays 278 = .ok (.iload 6, 2) := by decide +kernel
theorem d_mo_lays_280 : decode c_mo_lays 280 = .ok (.iload_n 1, 1) := by decide +kernel
theorem d_mo_lays_281 : decode c_mo_lays 281 = .ok (.bipush 9, 2) := by decide +kernel
theorem d_mo_lays_283 : decode c_mo_lays 283 = .ok (.if_icmp .ne 18, 3) := by decide +kernel
theorem d_mo_lays_286 : decode c_mo_lays 286 = .ok (.iload 5, 2) := by decide +kernel
theorem d_mo_lays_288 : decode c_mo_lays 288 = .ok (.aload_n 0, 1) := by decide +kernel
theorem d_mo_lays_289 : decode c_mo_lays 289 = .ok (.getfield 19, 3) := by decide +kernel
theorem d_mo_lays_292 : decode c_mo_lays 292 = .ok (.iload 7, 2) := by decide +kernel
theorem d_mo_lays_294 : decode c_mo_lays 294 = .ok (.iaload, 1) := by decide +kernel
theorem d_mo_lays_295 : decode c_mo_lays 295 = .ok (.invokestatic 173, 3) := by decide +kernel
theorem d_mo_lays_298 : decode c_mo_lays 298 = .ok (.goto 17, 3) := by decide +kernel
theorem d_mo_lays_301 : decode c_mo_lays 301 = .ok (.iload_n 1, 1) := by decide +kernel
theorem d_mo_lays_302 : decode c_mo_lays 302 = .ok (.bipush 10, 2) := by decide +kernel
theorem d_mo_lays_304 : decode c_mo_lays 304 = .ok (.if_icmp .ne 10, 3) := by decide +kernel
theorem d_mo_lays_307 : decode c_mo_lays 307 = .ok (.aload_n 0, 1) := by decide +kernel
theorem d_mo_lays_308 : decode c_mo_lays 308 = .ok (.getfield 167, 3) := by decide +kernel
theorem d_mo_lays_311 : decode c_mo_lays 311 = .ok (.goto 4, 3) := by decide +kernel
theorem d_mo_lays_314 : decode c_mo_lays 314 = .ok (.iconst 0, 1) := by decide +kernel
theorem d_mo_lays_315 : decode c_mo_lays 315 = .ok (.iastore, 1) := by decide +kernel
theorem d_mo_lays_316 : decode c_mo_lays 316 = .ok (.aload_n 0, 1) := by decide +kernel
theorem d_mo_lays_317 : decode c_mo_lays 317 = .ok (.getfield 138, 3) := by decide +kernel
theorem d_mo_lays_320 : decode c_mo_lays 320 = .ok (.iload 6, 2) := by decide +kernel
theorem d_mo_lays_322 : decode c_mo_lays 322 = .ok (.iaload, 1) := by decide +kernel
theorem d_mo_lays_323 : decode c_mo_lays 323 = .ok (.aload_n 0, 1) := by decide +kernel
theorem d_mo_lays_324 : decode c_mo_lays 324 = .ok (.getfield 16, 3) := by decide +kernel
theorem d_mo_lays_327 : decode c_mo_lays 327 = .ok (.iload 7, 2) := by decide +kernel
theorem d_mo_lays_329 : decode c_mo_lays 329 = .ok (.iaload, 1) := by decide +kernel
theorem d_mo_lays_330 : decode c_mo_lays 330 = .ok (.iadd, 1) := by decide +kernel
theorem d_mo_lays_331 : decode c_mo_lays 331 = .ok (.istore 8, 2) := by decide +kernel
theorem d_mo_lays_333 : decode c_mo_lays 333 = .ok (.iload_n 1, 1) := by decide +kernel
theorem d_mo_lays_334 : decode c_mo_lays 334 = .ok (.bipush 9, 2) := by decide +kernel
theorem d_mo_lays_336 : decode c_mo_lays 336 = .ok (.if_icmp .eq 10, 3) := by decide +kernel
theorem d_mo_lays_339 : decode c_mo_lays 339 = .ok (.iload 8, 2) := by decide +kernel
theorem d_mo_lays_341 : decode c_mo_lays 341 = .ok (.iload 5, 2) := by decide +kernel
theorem d_mo_lays_343 : decode c_mo_lays 343 = .ok (.if_icmp .le 8, 3) := by decide +kernel
theorem d_mo_lays_346 : decode c_mo_lays 346 = .ok (.iload 8, 2) := by decide +kernel
theorem d_mo_lays_348 : decode c_mo_lays 348 = .ok (.goto 5, 3) := by decide +kernel
theorem d_mo_lays_351 : decode c_mo_lays 351 = .ok (.iload 5, 2) := by decide +kernel
theorem d_mo_lays_353 : decode c_mo_lays 353 = .ok (.istore 5, 2) := by decide +kernel
theorem d_mo_lays_355 : decode c_mo_lays 355 = .ok (.iinc 6 1, 3) := by decide +kernel
theorem d_mo_lays_358 : decode c_mo_lays 358 = .ok (.goto (-138), 3) := by decide +kernel
theorem d_mo_lays_361 : decode c_mo_lays 361 = .ok (.aload_n 0, 1) := by decide +kernel
theorem d_mo_lays_362 : decode c_mo_lays 362 = .ok (.iload_n 3, 1) := by decide +kernel
theorem d_mo_lays_363 : decode c_mo_lays 363 = .ok (.ifCond .eq 15, 3) := by decide +kernel
theorem d_mo_lays_366 : decode c_mo_lays 366 = .ok (.iload 5, 2) := by decide +kernel
theorem d_mo_lays_368 : decode c_mo_lays 368 = .ok (.aload_n 0, 1) := by decide +kernel
theorem d_mo_lays_369 : decode c_mo_lays 369 = .ok (.getfield 167, 3) := by decide +kernel
theorem d_mo_lays_372 : decode c_mo_lays 372 = .ok (.invokestatic 173, 3) := by decide +kernel
theorem d_mo_lays_375 : decode c_mo_lays 375 = .ok (.goto 7, 3) := by decide +kernel
theorem d_mo_lays_378 : decode c_mo_lays 378 = .ok (.aload_n 0, 1) := by decide +kernel
theorem d_mo_lays_379 : decode c_mo_lays 379 = .ok (.getfield 170, 3) := by decide +kernel
theorem d_mo_lays_382 : decode c_mo_lays 382 = .ok (.putfield 170, 3) := by decide +kernel
theorem d_mo_lays_385 : decode c_mo_lays 385 = .ok (.aload_n 0, 1) := by decide +kernel
theorem d_mo_lays_386 : decode c_mo_lays 386 = .ok (.getfield 160, 3) := by decide +kernel
theorem d_mo_lays_389 : decode c_mo_lays 389 = .ok (.iconst 5, 1) := by decide +kernel
theorem d_mo_lays_390 : decode c_mo_lays 390 = .ok (.if_icmp .gt 16, 3) := by decide +kernel
theorem d_mo_lays_393 : decode c_mo_lays 393 = .ok (.aload_n 0, 1) := by decide +kernel
theorem d_mo_lays_394 : decode c_mo_lays 394 = .ok (.getfield 170, 3) := by decide +kernel
theorem d_mo_lays_397 : decode c_mo_lays 397 = .ok (.bipush 96, 2) := by decide +kernel
theorem d_mo_lays_399 : decode c_mo_lays 399 = .ok (.if_icmp .gt 7, 3) := by decide +kernel
theorem d_mo_lays_402 : decode c_mo_lays 402 = .ok (.iconst 1, 1) := by decide +kernel
theorem d_mo_lays_403 : decode c_mo_lays 403 = .ok (.goto 4, 3) := by decide +kernel
theorem d_mo_lays_406 : decode c_mo_lays 406 = .ok (.iconst 0, 1) := by decide +kernel
theorem d_mo_lays_407 : decode c_mo_lays 407 = .ok (.ireturn, 1) := by decide +kernel
theorem d_mo_type_0 : decode c_mo_type 0 = .ok (.aload_n 0, 1) := by decide +kernel
theorem d_mo_type_1 : decode c_mo_type 1 = .ok (.aload_n 0, 1) := by decide +kernel
theorem d_mo_type_2 : decode c_mo_type 2 = .ok (.iload_n 1, 1) := by decide +kernel
theorem d_mo_type_3 : decode c_mo_type 3 = .ok (.iload_n 2, 1) := by decide +kernel
theorem d_mo_type_4 : decode c_mo_type 4 = .ok (.invokevirtual 177, 3) := by decide +kernel
theorem d_mo_type_7 : decode c_mo_type 7 = .ok (.ifCond .ne 7, 3) := by decide +kernel
theorem d_mo_type_10 : decode c_mo_type 10 = .ok (.iconst 1, 1) := by decide +kernel
theorem d_mo_type_11 : decode c_mo_type 11 = .ok (.goto 17, 3) := by decide +kernel
theorem d_mo_type_14 : decode c_mo_type 14 = .ok (.aload_n 0, 1) := by decide +kernel
theorem d_mo_type_15 : decode c_mo_type 15 = .ok (.getfield 144, 3) := by decide +kernel
theorem d_mo_type_18 : decode c_mo_type 18 = .ok (.bipush 32, 2) := by decide +kernel
theorem d_mo_type_20 : decode c_mo_type 20 = .ok (.if_icmp .ne 7, 3) := by decide +kernel
theorem d_mo_type_23 : decode c_mo_type 23 = .ok (.iconst 2, 1) := by decide +kernel
theorem d_mo_type_24 : decode c_mo_type 24 = .ok (.goto 4, 3) := by decide +kernel
theorem d_mo_type_27 : decode c_mo_type 27 = .ok (.iconst 0, 1) := by decide +kernel
theorem d_mo_type_28 : decode c_mo_type 28 = .ok (.invokevirtual 157, 3) := by decide +kernel
theorem d_mo_type_31 : decode c_mo_type 31 = .ok (.ifCond .eq 5, 3) := by decide +kernel
theorem d_mo_type_34 : decode c_mo_type 34 = .ok (.iconst 0, 1) := by decide +kernel
theorem d_mo_type_35 : decode c_mo_type 35 = .ok (.ireturn, 1) := by decide +kernel
theorem d_mo_type_36 : decode c_mo_type 36 = .ok (.aload_n 0, 1) := by decide +kernel
theorem d_mo_type_37 : decode c_mo_type 37 = .ok (.getfield 144, 3) := by decide +kernel
theorem d_mo_type_40 : decode c_mo_type 40 = .ok (.istore_n 3, 1) := by decide +kernel
theorem d_mo_type_41 : decode c_mo_type 41 = .ok (.aload_n 0, 1) := by decide +kernel
theorem d_mo_type_42 : decode c_mo_type 42 = .ok (.dup, 1) := by decide +kernel
theorem d_mo_type_43 : decode c_mo_type 43 = .ok (.getfield 144, 3) := by decide +kernel
theorem d_mo_type_46 : decode c_mo_type 46 = .ok (.iconst 1, 1) := by decide +kernel
theorem d_mo_type_47 : decode c_mo_type 47 = .ok (.iadd, 1) := by decide +kernel
theorem d_mo_type_48 : decode c_mo_type 48 = .ok (.putfield 144, 3) := by decide +kernel
theorem d_mo_type_51 : decode c_mo_type 51 = .ok (.aload_n 0, 1) := by decide +kernel
theorem d_mo_type_52 : decode c_mo_type 52 = .ok (.getfield 7, 3) := by decide +kernel
theorem d_mo_type_55 : decode c_mo_type 55 = .ok (.iload_n 3, 1) := by decide +kernel
theorem d_mo_type_56 : decode c_mo_type 56 = .ok (.iload_n 1, 1) := by decide +kernel
theorem d_mo_type_57 : decode c_mo_type 57 = .ok (.iastore, 1) := by decide +kernel
theorem d_mo_type_58 : decode c_mo_type 58 = .ok (.aload_n 0, 1) := by decide +kernel
theorem d_mo_type_59 : decode c_mo_type 59 = .ok (.getfield 13, 3) := by decide +kernel
theorem d_mo_type_62 : decode c_mo_type 62 = .ok (.iload_n 3, 1) := by decide +kernel
theorem d_mo_type_63 : decode c_mo_type 63 = .ok (.iload_n 2, 1) := by decide +kernel
theorem d_mo_type_64 : decode c_mo_type 64 = .ok (.iastore, 1) := by decide +kernel
theorem d_mo_type_65 : decode c_mo_type 65 = .ok (.aload_n 0, 1) := by decide +kernel
theorem d_mo_type_66 : decode c_mo_type 66 = .ok (.getfield 16, 3) := by decide +kernel
theorem d_mo_type_69 : decode c_mo_type 69 = .ok (.iload_n 3, 1) := by decide +kernel
theorem d_mo_type_70 : decode c_mo_type 70 = .ok (.aload_n 0, 1) := by decide +kernel
theorem d_mo_type_71 : decode c_mo_type 71 = .ok (.getfield 170, 3) := by decide +kernel
theorem d_mo_type_74 : decode c_mo_type 74 = .ok (.iastore, 1) := by decide +kernel
theorem d_mo_type_75 : decode c_mo_type 75 = .ok (.aload_n 0, 1) := by decide +kernel
theorem d_mo_type_76 : decode c_mo_type 76 = .ok (.getfield 19, 3) := by decide +kernel
theorem d_mo_type_79 : decode c_mo_type 79 = .ok (.iload_n 3, 1) := by decide +kernel
theorem d_mo_type_80 : decode c_mo_type 80 = .ok (.aload_n 0, 1) := by decide +kernel
theorem d_mo_type_81 : decode c_mo_type 81 = .ok (.getfield 167, 3) := by decide +kernel
theorem d_mo_type_84 : decode c_mo_type 84 = .ok (.iastore, 1) := by decide +kernel
theorem d_mo_type_85 : decode c_mo_type 85 = .ok (.aload_n 0, 1) := by decide +kernel
theorem d_mo_type_86 : decode c_mo_type 86 = .ok (.getfield 22, 3) := by decide +kernel
theorem d_mo_type_89 : decode c_mo_type 89 = .ok (.iload_n 3, 1) := by decide +kernel
theorem d_mo_type_90 : decode c_mo_type 90 = .ok (.aload_n 0, 1) := by decide +kernel
theorem d_mo_type_91 : decode c_mo_type 91 = .ok (.getfield 160, 3) := by decide +kernel
theorem d_mo_type_94 : decode c_mo_type 94 = .ok (.iastore, 1) := by decide +kernel
theorem d_mo_type_95 : decode c_mo_type 95 = .ok (.aload_n 0, 1) := by decide +kernel
theorem d_mo_type_96 : decode c_mo_type 96 = .ok (.getfield 25, 3) := by decide +kernel
theorem d_mo_type_99 : decode c_mo_type 99 = .ok (.iload_n 3, 1) := by decide +kernel
theorem d_mo_type_100 : decode c_mo_type 100 = .ok (.aload_n 0, 1) := by decide +kernel
theorem d_mo_type_101 : decode c_mo_type 101 = .ok (.getfield 154, 3) := by decide +kernel
theorem d_mo_type_104 : decode c_mo_type 104 = .ok (.iastore, 1) := by decide +kernel
theorem d_mo_type_105 : decode c_mo_type 105 = .ok (.iconst 0, 1) := by decide +kernel
theorem d_mo_type_106 : decode c_mo_type 106 = .ok (.istore 4, 2) := by decide +kernel
theorem d_mo_type_108 : decode c_mo_type 108 = .ok (.iload 4, 2) := by decide +kernel
theorem d_mo_type_110 : decode c_mo_type 110 = .ok (.aload_n 0, 1) := by decide +kernel
theorem d_mo_type_111 : decode c_mo_type 111 = .ok (.getfield 154, 3) := by decide +kernel
theorem d_mo_type_114 : decode c_mo_type 114 = .ok (.if_icmp .ge 47, 3) := by decide +kernel
theorem d_mo_type_117 : decode c_mo_type 117 = .ok (.aload_n 0, 1) := by decide +kernel
theorem d_mo_type_118 : decode c_mo_type 118 = .ok (.getfield 28, 3) := by decide +kernel
theorem d_mo_type_121 : decode c_mo_type 121 = .ok (.bipush 6, 2) := by decide +kernel
theorem d_mo_type_123 : decode c_mo_type 123 = .ok (.iload_n 3, 1) := by decide +kernel
theorem d_mo_type_124 : decode c_mo_type 124 = .ok (.imul, 1) := by decide +kernel
theorem d_mo_type_125 : decode c_mo_type 125 = .ok (.iload 4, 2) := by decide +kernel
theorem d_mo_type_127 : decode c_mo_type 127 = .ok (.iadd, 1) := by decide +kernel
theorem d_mo_type_128 : decode c_mo_type 128 = .ok (.aload_n 0, 1) := by decide +kernel
theorem d_mo_type_129 : decode c_mo_type 129 = .ok (.getfield 34, 3) := by decide +kernel
theorem d_mo_type_132 : decode c_mo_type 132 = .ok (.iload 4, 2) := by decide +kernel
theorem d_mo_type_134 : decode c_mo_type 134 = .ok (.iaload, 1) := by decide +kernel
theorem d_mo_type_135 : decode c_mo_type 135 = .ok (.iastore, 1) := by decide +kernel
theorem d_mo_type_136 : decode c_mo_type 136 = .ok (.aload_n 0, 1) := by decide +kernel
theorem d_mo_type_137 : decode c_mo_type 137 = .ok (.getfield 31, 3) := by decide +kernel
theorem d_mo_type_140 : decode c_mo_type 140 = .ok (.bipush 6, 2) := by decide +kernel
theorem d_mo_type_142 : decode c_mo_type 142 = .ok (.iload_n 3, 1) := by decide +kernel
theorem d_mo_type_143 : decode c_mo_type 143 = .ok (.imul, 1) := by decide +kernel
theorem d_mo_type_144 : decode c_mo_type 144 = .ok (.iload 4, 2) := by decide +kernel
theorem d_mo_type_146 : decode c_mo_type 146 = .ok (.iadd, 1) := by decide +kernel
theorem d_mo_type_147 : decode c_mo_type 147 = .ok (.aload_n 0, 1) := by decide +kernel
theorem d_mo_type_148 : decode c_mo_type 148 = .ok (.getfield 138, 3) := by decide +kernel
theorem d_mo_type_151 : decode c_mo_type 151 = .ok (.iload 4, 2) := by decide +kernel
theorem d_mo_type_153 : decode c_mo_type 153 = .ok (.iaload, 1) := by decide +kernel
theorem d_mo_type_154 : decode c_mo_type 154 = .ok (.iastore, 1) := by decide +kernel
theorem d_mo_type_155 : decode c_mo_type 155 = .ok (.iinc 4 1, 3) := by decide +kernel
theorem d_mo_type_158 : decode c_mo_type 158 = .ok (.goto (-50), 3) := by decide +kernel
theorem d_mo_type_161 : decode c_mo_type 161 = .ok (.aload_n 0, 1) := by decide +kernel
theorem d_mo_type_162 : decode c_mo_type 162 = .ok (.iconst 0, 1) := by decide +kernel
theorem d_mo_type_163 : decode c_mo_type 163 = .ok (.putfield 154, 3) := by decide +kernel
theorem d_mo_type_166 : decode c_mo_type 166 = .ok (.iload_n 3, 1) := by decide +kernel
theorem d_mo_type_167 : decode c_mo_type 167 = .ok (.ireturn, 1) := by decide +kernel
theorem d_mo_fits_0 : decode c_mo_fits 0 = .ok (.aload_n 0, 1) := by decide +kernel
theorem d_mo_fits_1 : decode c_mo_fits 1 = .ok (.aload_n 0, 1) := by decide +kernel
theorem d_mo_fits_2 : decode c_mo_fits 2 = .ok (.iload_n 1, 1) := by decide +kernel
theorem d_mo_fits_3 : decode c_mo_fits 3 = .ok (.invokevirtual 150, 3) := by decide +kernel
theorem d_mo_fits_6 : decode c_mo_fits 6 = .ok (.ifCond .eq 15, 3) := by decide +kernel
theorem d_mo_fits_9 : decode c_mo_fits 9 = .ok (.aload_n 0, 1) := by decide +kernel
theorem d_mo_fits_10 : decode c_mo_fits 10 = .ok (.iload_n 2, 1) := by decide +kernel
theorem d_mo_fits_11 : decode c_mo_fits 11 = .ok (.invokevirtual 150, 3) := by decide +kernel
theorem d_mo_fits_14 : decode c_mo_fits 14 = .ok (.ifCond .eq 7, 3) := by decide +kernel
theorem d_mo_fits_17 : decode c_mo_fits 17 = .ok (.iconst 0, 1) := by decide +kernel
theorem d_mo_fits_18 : decode c_mo_fits 18 = .ok (.goto 4, 3) := by decide +kernel
theorem d_mo_fits_21 : decode c_mo_fits 21 = .ok (.iconst 1, 1) := by decide +kernel
theorem d_mo_fits_22 : decode c_mo_fits 22 = .ok (.invokevirtual 157, 3) := by decide +kernel
theorem d_mo_fits_25 : decode c_mo_fits 25 = .ok (.ifCond .eq 7, 3) := by decide +kernel
theorem d_mo_fits_28 : decode c_mo_fits 28 = .ok (.iconst 0, 1) := by decide +kernel
theorem d_mo_fits_29 : decode c_mo_fits 29 = .ok (.goto 9, 3) := by decide +kernel
theorem d_mo_fits_32 : decode c_mo_fits 32 = .ok (.aload_n 0, 1) := by decide +kernel
theorem d_mo_fits_33 : decode c_mo_fits 33 = .ok (.iload_n 1, 1) := by decide +kernel
theorem d_mo_fits_34 : decode c_mo_fits 34 = .ok (.iload_n 2, 1) := by decide +kernel
theorem d_mo_fits_35 : decode c_mo_fits 35 = .ok (.invokevirtual 194, 3) := by decide +kernel
theorem d_mo_fits_38 : decode c_mo_fits 38 = .ok (.ireturn, 1) := by decide +kernel
theorem d_mo_function_0 : decode c_mo_function 0 = .ok (.aload_n 0, 1) := by decide +kernel
theorem d_mo_function_1 : decode c_mo_function 1 = .ok (.aload_n 0, 1) := by decide +kernel
theorem d_mo_function_2 : decode c_mo_function 2 = .ok (.iload_n 1, 1) := by decide +kernel
theorem d_mo_function_3 : decode c_mo_function 3 = .ok (.invokevirtual 197, 3) := by decide +kernel
theorem d_mo_function_6 : decode c_mo_function 6 = .ok (.ifCond .eq 19, 3) := by decide +kernel
theorem d_mo_function_9 : decode c_mo_function 9 = .ok (.aload_n 0, 1) := by decide +kernel
theorem d_mo_function_10 : decode c_mo_function 10 = .ok (.iload_n 2, 1) := by decide +kernel
theorem d_mo_function_11 : decode c_mo_function 11 = .ok (.invokevirtual 150, 3) := by decide +kernel
theorem d_mo_function_14 : decode c_mo_function 14 = .ok (.ifCond .eq 11, 3) := by decide +kernel
theorem d_mo_function_17 : decode c_mo_function 17 = .ok (.aload_n 0, 1) := by decide +kernel
theorem d_mo_function_18 : decode c_mo_function 18 = .ok (.iload_n 3, 1) := by decide +kernel
theorem d_mo_function_19 : decode c_mo_function 19 = .ok (.invokevirtual 150, 3) := by decide +kernel
theorem d_mo_function_22 : decode c_mo_function 22 = .ok (.ifCond .ne 7, 3) := by decide +kernel
theorem d_mo_function_25 : decode c_mo_function 25 = .ok (.iconst 1, 1) := by decide +kernel
theorem d_mo_function_26 : decode c_mo_function 26 = .ok (.goto 29, 3) := by decide +kernel
theorem d_mo_function_29 : decode c_mo_function 29 = .ok (.aload_n 0, 1) := by decide +kernel
theorem d_mo_function_30 : decode c_mo_function 30 = .ok (.iload_n 3, 1) := by decide +kernel
theorem d_mo_function_31 : decode c_mo_function 31 = .ok (.invokevirtual 200, 3) := by decide +kernel
theorem d_mo_function_34 : decode c_mo_function 34 = .ok (.ifCond .eq 7, 3) := by decide +kernel
theorem d_mo_function_37 : decode c_mo_function 37 = .ok (.iconst 2, 1) := by decide +kernel
theorem d_mo_function_38 : decode c_mo_function 38 = .ok (.goto 17, 3) := by decide +kernel
theorem d_mo_function_41 : decode c_mo_function 41 = .ok (.aload_n 0, 1) := by decide +kernel
theorem d_mo_function_42 : decode c_mo_function 42 = .ok (.getfield 203, 3) := by decide +kernel
theorem d_mo_function_45 : decode c_mo_function 45 = .ok (.bipush 12, 2) := by decide +kernel
theorem d_mo_function_47 : decode c_mo_function 47 = .ok (.if_icmp .ne 7, 3) := by decide +kernel
theorem d_mo_function_50 : decode c_mo_function 50 = .ok (.iconst 3, 1) := by decide +kernel
theorem d_mo_function_51 : decode c_mo_function 51 = .ok (.goto 4, 3) := by decide +kernel
theorem d_mo_function_54 : decode c_mo_function 54 = .ok (.iconst 0, 1) := by decide +kernel
theorem d_mo_function_55 : decode c_mo_function 55 = .ok (.invokevirtual 157, 3) := by decide +kernel
theorem d_mo_function_58 : decode c_mo_function 58 = .ok (.ifCond .eq 5, 3) := by decide +kernel
theorem d_mo_function_61 : decode c_mo_function 61 = .ok (.iconst 0, 1) := by decide +kernel
theorem d_mo_function_62 : decode c_mo_function 62 = .ok (.ireturn, 1) := by decide +kernel
theorem d_mo_function_63 : decode c_mo_function 63 = .ok (.aload_n 0, 1) := by decide +kernel
theorem d_mo_function_64 : decode c_mo_function 64 = .ok (.getfield 71, 3) := by decide +kernel
theorem d_mo_function_67 : decode c_mo_function 67 = .ok (.aload_n 0, 1) := by decide +kernel
theorem d_mo_function_68 : decode c_mo_function 68 = .ok (.getfield 203, 3) := by decide +kernel
theorem d_mo_function_71 : decode c_mo_function 71 = .ok (.iload_n 1, 1) := by decide +kernel
theorem d_mo_function_72 : decode c_mo_function 72 = .ok (.iastore, 1) := by decide +kernel
theorem d_mo_function_73 : decode c_mo_function 73 = .ok (.aload_n 0, 1) := by decide +kernel
theorem d_mo_function_74 : decode c_mo_function 74 = .ok (.getfield 74, 3) := by decide +kernel
theorem d_mo_function_77 : decode c_mo_function 77 = .ok (.aload_n 0, 1) := by decide +kernel
theorem d_mo_function_78 : decode c_mo_function 78 = .ok (.getfield 203, 3) := by decide +kernel
theorem d_mo_function_81 : decode c_mo_function 81 = .ok (.iload_n 2, 1) := by decide +kernel
theorem d_mo_function_82 : decode c_mo_function 82 = .ok (.iastore, 1) := by decide +kernel
theorem d_mo_function_83 : decode c_mo_function 83 = .ok (.aload_n 0, 1) := by decide +kernel
theorem d_mo_function_84 : decode c_mo_function 84 = .ok (.getfield 77, 3) := by decide +kernel
theorem d_mo_function_87 : decode c_mo_function 87 = .ok (.aload_n 0, 1) := by decide +kernel
theorem d_mo_function_88 : decode c_mo_function 88 = .ok (.getfield 203, 3) := by decide +kernel
theorem d_mo_function_91 : decode c_mo_function 91 = .ok (.iload_n 3, 1) := by decide +kernel
theorem d_mo_function_92 : decode c_mo_function 92 = .ok (.iastore, 1) := by decide +kernel
theorem d_mo_function_93 : decode c_mo_function 93 = .ok (.aload_n 0, 1) := by decide +kernel
theorem d_mo_function_94 : decode c_mo_function 94 = .ok (.dup, 1) := by decide +kernel
theorem d_mo_function_95 : decode c_mo_function 95 = .ok (.getfield 203, 3) := by decide +kernel
theorem d_mo_function_98 : decode c_mo_function 98 = .ok (.iconst 1, 1) := by decide +kernel
theorem d_mo_function_99 : decode c_mo_function 99 = .ok (.iadd, 1) := by decide +kernel
theorem d_mo_function_100 : decode c_mo_function 100 = .ok (.putfield 203, 3) := by decide +kernel
theorem d_mo_function_103 : decode c_mo_function 103 = .ok (.aload_n 0, 1) := by decide +kernel
theorem d_mo_function_104 : decode c_mo_function 104 = .ok (.getfield 203, 3) := by decide +kernel
theorem d_mo_function_107 : decode c_mo_function 107 = .ok (.iconst 1, 1) := by decide +kernel
theorem d_mo_function_108 : decode c_mo_function 108 = .ok (.isub, 1) := by decide +kernel
theorem d_mo_function_109 : decode c_mo_function 109 = .ok (.ireturn, 1) := by decide +kernel
theorem d_mo_lends_0 : decode c_mo_lends 0 = .ok (.aload_n 0, 1) := by decide +kernel
theorem d_mo_lends_1 : decode c_mo_lends 1 = .ok (.iconst 0, 1) := by decide +kernel
theorem d_mo_lends_2 : decode c_mo_lends 2 = .ok (.putfield 181, 3) := by decide +kernel
theorem d_mo_lends_5 : decode c_mo_lends 5 = .ok (.aload_n 0, 1) := by decide +kernel
theorem d_mo_lends_6 : decode c_mo_lends 6 = .ok (.iload_n 1, 1) := by decide +kernel
theorem d_mo_lends_7 : decode c_mo_lends 7 = .ok (.iload_n 1, 1) := by decide +kernel
theorem d_mo_lends_8 : decode c_mo_lends 8 = .ok (.iconst 1, 1) := by decide +kernel
theorem d_mo_lends_9 : decode c_mo_lends 9 = .ok (.iconst 0, 1) := by decide +kernel
theorem d_mo_lends_10 : decode c_mo_lends 10 = .ok (.iconst 0, 1) := by decide +kernel
theorem d_mo_lends_11 : decode c_mo_lends 11 = .ok (.iconst 0, 1) := by decide +kernel
theorem d_mo_lends_12 : decode c_mo_lends 12 = .ok (.invokevirtual 184, 3) := by decide +kernel
theorem d_mo_lends_15 : decode c_mo_lends 15 = .ok (.aload_n 0, 1) := by decide +kernel
theorem d_mo_lends_16 : decode c_mo_lends 16 = .ok (.getfield 181, 3) := by decide +kernel
theorem d_mo_lends_19 : decode c_mo_lends 19 = .ok (.ifCond .le 88, 3) := by decide +kernel
theorem d_mo_lends_22 : decode c_mo_lends 22 = .ok (.aload_n 0, 1) := by decide +kernel
theorem d_mo_lends_23 : decode c_mo_lends 23 = .ok (.dup, 1) := by decide +kernel
theorem d_mo_lends_24 : decode c_mo_lends 24 = .ok (.getfield 181, 3) := by decide +kernel
theorem d_mo_lends_27 : decode c_mo_lends 27 = .ok (.iconst 1, 1) := by decide +kernel
theorem d_mo_lends_28 : decode c_mo_lends 28 = .ok (.isub, 1) := by decide +kernel
theorem d_mo_lends_29 : decode c_mo_lends 29 = .ok (.putfield 181, 3) := by decide +kernel
theorem d_mo_lends_32 : decode c_mo_lends 32 = .ok (.aload_n 0, 1) := by decide +kernel
theorem d_mo_lends_33 : decode c_mo_lends 33 = .ok (.getfield 93, 3) := by decide +kernel
theorem d_mo_lends_36 : decode c_mo_lends 36 = .ok (.aload_n 0, 1) := by decide +kernel
theorem d_mo_lends_37 : decode c_mo_lends 37 = .ok (.getfield 181, 3) := by decide +kernel
theorem d_mo_lends_40 : decode c_mo_lends 40 = .ok (.iaload, 1) := by decide +kernel
theorem d_mo_lends_41 : decode c_mo_lends 41 = .ok (.istore_n 2, 1) := by decide +kernel
theorem d_mo_lends_42 : decode c_mo_lends 42 = .ok (.aload_n 0, 1) := by decide +kernel
theorem d_mo_lends_43 : decode c_mo_lends 43 = .ok (.getfield 7, 3) := by decide +kernel
theorem d_mo_lends_46 : decode c_mo_lends 46 = .ok (.iload_n 2, 1) := by decide +kernel
theorem d_mo_lends_47 : decode c_mo_lends 47 = .ok (.iaload, 1) := by decide +kernel
theorem d_mo_lends_48 : decode c_mo_lends 48 = .ok (.bipush 12, 2) := by decide +kernel
theorem d_mo_lends_50 : decode c_mo_lends 50 = .ok (.if_icmp .ne 5, 3) := by decide +kernel
theorem d_mo_lends_53 : decode c_mo_lends 53 = .ok (.iconst 1, 1) := by decide +kernel
theorem d_mo_lends_54 : decode c_mo_lends 54 = .ok (.ireturn, 1) := by decide +kernel
theorem d_mo_lends_55 : decode c_mo_lends 55 = .ok (.aload_n 0, 1) := by decide +kernel
theorem d_mo_lends_56 : decode c_mo_lends 56 = .ok (.getfield 25, 3) := by decide +kernel
theorem d_mo_lends_59 : decode c_mo_lends 59 = .ok (.iload_n 2, 1) := by decide +kernel
theorem d_mo_lends_60 : decode c_mo_lends 60 = .ok (.iaload, 1) := by decide +kernel
theorem d_mo_lends_61 : decode c_mo_lends 61 = .ok (.iconst 1, 1) := by decide +kernel
theorem d_mo_lends_62 : decode c_mo_lends 62 = .ok (.isub, 1) := by decide +kernel
theorem d_mo_lends_63 : decode c_mo_lends 63 = .ok (.istore_n 3, 1) := by decide +kernel
theorem d_mo_lends_64 : decode c_mo_lends 64 = .ok (.iload_n 3, 1) := by decide +kernel
theorem d_mo_lends_65 : decode c_mo_lends 65 = .ok (.ifCond .lt 39, 3) := by decide +kernel
theorem d_mo_lends_68 : decode c_mo_lends 68 = .ok (.aload_n 0, 1) := by decide +kernel
theorem d_mo_lends_69 : decode c_mo_lends 69 = .ok (.aload_n 0, 1) := by decide +kernel
theorem d_mo_lends_70 : decode c_mo_lends 70 = .ok (.getfield 28, 3) := by decide +kernel
theorem d_mo_lends_73 : decode c_mo_lends 73 = .ok (.bipush 6, 2) := by decide +kernel
theorem d_mo_lends_75 : decode c_mo_lends 75 = .ok (.iload_n 2, 1) := by decide +kernel
theorem d_mo_lends_76 : decode c_mo_lends 76 = .ok (.imul, 1) := by decide +kernel
theorem d_mo_lends_77 : decode c_mo_lends 77 = .ok (.iload_n 3, 1) := by decide +kernel
theorem d_mo_lends_78 : decode c_mo_lends 78 = .ok (.iadd, 1) := by decide +kernel
theorem d_mo_lends_79 : decode c_mo_lends 79 = .ok (.iaload, 1) := by decide +kernel
theorem d_mo_lends_80 : decode c_mo_lends 80 = .ok (.aload_n 0, 1) := by decide +kernel
theorem d_mo_lends_81 : decode c_mo_lends 81 = .ok (.getfield 28, 3) := by decide +kernel
theorem d_mo_lends_84 : decode c_mo_lends 84 = .ok (.bipush 6, 2) := by decide +kernel
theorem d_mo_lends_86 : decode c_mo_lends 86 = .ok (.iload_n 2, 1) := by decide +kernel
theorem d_mo_lends_87 : decode c_mo_lends 87 = .ok (.imul, 1) := by decide +kernel
theorem d_mo_lends_88 : decode c_mo_lends 88 = .ok (.iload_n 3, 1) := by decide +kernel
theorem d_mo_lends_89 : decode c_mo_lends 89 = .ok (.iadd, 1) := by decide +kernel
theorem d_mo_lends_90 : decode c_mo_lends 90 = .ok (.iaload, 1) := by decide +kernel
theorem d_mo_lends_91 : decode c_mo_lends 91 = .ok (.iconst 1, 1) := by decide +kernel
theorem d_mo_lends_92 : decode c_mo_lends 92 = .ok (.iconst 0, 1) := by decide +kernel
theorem d_mo_lends_93 : decode c_mo_lends 93 = .ok (.iconst 0, 1) := by decide +kernel
theorem d_mo_lends_94 : decode c_mo_lends 94 = .ok (.iconst 0, 1) := by decide +kernel
theorem d_mo_lends_95 : decode c_mo_lends 95 = .ok (.invokevirtual 184, 3) := by decide +kernel
theorem d_mo_lends_98 : decode c_mo_lends 98 = .ok (.iinc 3 (-1), 3) := by decide +kernel
theorem d_mo_lends_101 : decode c_mo_lends 101 = .ok (.goto (-37), 3) := by decide +kernel
theorem d_mo_lends_104 : decode c_mo_lends 104 = .ok (.goto (-89), 3) := by decide +kernel
theorem d_mo_lends_107 : decode c_mo_lends 107 = .ok (.iconst 0, 1) := by decide +kernel
theorem d_mo_lends_108 : decode c_mo_lends 108 = .ok (.ireturn, 1) := by decide +kernel
theorem d_mo_misfit_0 : decode c_mo_misfit 0 = .ok (.aload_n 0, 1) := by decide +kernel
theorem d_mo_misfit_1 : decode c_mo_misfit 1 = .ok (.iconst 0, 1) := by decide +kernel
theorem d_mo_misfit_2 : decode c_mo_misfit 2 = .ok (.putfield 181, 3) := by decide +kernel
theorem d_mo_misfit_5 : decode c_mo_misfit 5 = .ok (.aload_n 0, 1) := by decide +kernel
theorem d_mo_misfit_6 : decode c_mo_misfit 6 = .ok (.iload_n 1, 1) := by decide +kernel
theorem d_mo_misfit_7 : decode c_mo_misfit 7 = .ok (.iload_n 2, 1) := by decide +kernel
theorem d_mo_misfit_8 : decode c_mo_misfit 8 = .ok (.iconst 1, 1) := by decide +kernel
theorem d_mo_misfit_9 : decode c_mo_misfit 9 = .ok (.iconst 0, 1) := by decide +kernel
theorem d_mo_misfit_10 : decode c_mo_misfit 10 = .ok (.iconst 0, 1) := by decide +kernel
theorem d_mo_misfit_11 : decode c_mo_misfit 11 = .ok (.iconst 0, 1) := by decide +kernel
theorem d_mo_misfit_12 : decode c_mo_misfit 12 = .ok (.invokevirtual 184, 3) := by decide +kernel
theorem d_mo_misfit_15 : decode c_mo_misfit 15 = .ok (.iconst 0, 1) := by decide +kernel
theorem d_mo_misfit_16 : decode c_mo_misfit 16 = .ok (.istore_n 3, 1) := by decide +kernel
theorem d_mo_misfit_17 : decode c_mo_misfit 17 = .ok (.aload_n 0, 1) := by decide +kernel
theorem d_mo_misfit_18 : decode c_mo_misfit 18 = .ok (.getfield 181, 3) := by decide +kernel
theorem d_mo_misfit_21 : decode c_mo_misfit 21 = .ok (.ifCond .le 111, 3) := by decide +kernel
theorem d_mo_misfit_24 : decode c_mo_misfit 24 = .ok (.aload_n 0, 1) := by decide +kernel
theorem d_mo_misfit_25 : decode c_mo_misfit 25 = .ok (.dup, 1) := by decide +kernel
theorem d_mo_misfit_26 : decode c_mo_misfit 26 = .ok (.getfield 181, 3) := by decide +kernel
theorem d_mo_misfit_29 : decode c_mo_misfit 29 = .ok (.iconst 1, 1) := by decide +kernel
theorem d_mo_misfit_30 : decode c_mo_misfit 30 = .ok (.isub, 1) := by decide +kernel
theorem d_mo_misfit_31 : decode c_mo_misfit 31 = .ok (.putfield 181, 3) := by decide +kernel
theorem d_mo_misfit_34 : decode c_mo_misfit 34 = .ok (.aload_n 0, 1) := by decide +kernel
theorem d_mo_misfit_35 : decode c_mo_misfit 35 = .ok (.getfield 93, 3) := by decide +kernel
theorem d_mo_misfit_38 : decode c_mo_misfit 38 = .ok (.aload_n 0, 1) := by decide +kernel
theorem d_mo_misfit_39 : decode c_mo_misfit 39 = .ok (.getfield 181, 3) := by decide +kernel
theorem d_mo_misfit_42 : decode c_mo_misfit 42 = .ok (.iaload, 1) := by decide +kernel
theorem d_mo_misfit_43 : decode c_mo_misfit 43 = .ok (.istore 4, 2) := by decide +kernel
theorem d_mo_misfit_45 : decode c_mo_misfit 45 = .ok (.aload_n 0, 1) := by decide +kernel
theorem d_mo_misfit_46 : decode c_mo_misfit 46 = .ok (.getfield 96, 3) := by decide +kernel
theorem d_mo_misfit_49 : decode c_mo_misfit 49 = .ok (.aload_n 0, 1) := by decide +kernel
theorem d_mo_misfit_50 : decode c_mo_misfit 50 = .ok (.getfield 181, 3) := by decide +kernel
theorem d_mo_misfit_53 : decode c_mo_misfit 53 = .ok (.iaload, 1) := by decide +kernel
theorem d_mo_misfit_54 : decode c_mo_misfit 54 = .ok (.istore 5, 2) := by decide +kernel
theorem d_mo_misfit_56 : decode c_mo_misfit 56 = .ok (.iinc 3 1, 3) := by decide +kernel
theorem d_mo_misfit_59 : decode c_mo_misfit 59 = .ok (.aload_n 0, 1) := by decide +kernel
theorem d_mo_misfit_60 : decode c_mo_misfit 60 = .ok (.iload 4, 2) := by decide +kernel
theorem d_mo_misfit_62 : decode c_mo_misfit 62 = .ok (.iload 5, 2) := by decide +kernel
theorem d_mo_misfit_64 : decode c_mo_misfit 64 = .ok (.invokevirtual 188, 3) := by decide +kernel
theorem d_mo_misfit_67 : decode c_mo_misfit 67 = .ok (.ifCond .ne 5, 3) := by decide +kernel
theorem d_mo_misfit_70 : decode c_mo_misfit 70 = .ok (.iload_n 3, 1) := by decide +kernel
theorem d_mo_misfit_71 : decode c_mo_misfit 71 = .ok (.ireturn, 1) := by decide +kernel
theorem d_mo_misfit_72 : decode c_mo_misfit 72 = .ok (.aload_n 0, 1) := by decide +kernel
theorem d_mo_misfit_73 : decode c_mo_misfit 73 = .ok (.iload 4, 2) := by decide +kernel
theorem d_mo_misfit_75 : decode c_mo_misfit 75 = .ok (.iload 5, 2) := by decide +kernel
theorem d_mo_misfit_77 : decode c_mo_misfit 77 = .ok (.invokevirtual 191, 3) := by decide +kernel
theorem d_mo_misfit_80 : decode c_mo_misfit 80 = .ok (.iconst 1, 1) := by decide +kernel
theorem d_mo_misfit_81 : decode c_mo_misfit 81 = .ok (.isub, 1) := by decide +kernel
theorem d_mo_misfit_82 : decode c_mo_misfit 82 = .ok (.istore 6, 2) := by decide +kernel
theorem d_mo_misfit_84 : decode c_mo_misfit 84 = .ok (.iload 6, 2) := by decide +kernel
theorem d_mo_misfit_86 : decode c_mo_misfit 86 = .ok (.ifCond .lt 43, 3) := by decide +kernel
theorem d_mo_misfit_89 : decode c_mo_misfit 89 = .ok (.aload_n 0, 1) := by decide +kernel
theorem d_mo_misfit_90 : decode c_mo_misfit 90 = .ok (.aload_n 0, 1) := by decide +kernel
theorem d_mo_misfit_91 : decode c_mo_misfit 91 = .ok (.getfield 28, 3) := by decide +kernel
theorem d_mo_misfit_94 : decode c_mo_misfit 94 = .ok (.bipush 6, 2) := by decide +kernel
theorem d_mo_misfit_96 : decode c_mo_misfit 96 = .ok (.iload 4, 2) := by decide +kernel
theorem d_mo_misfit_98 : decode c_mo_misfit 98 = .ok (.imul, 1) := by decide +kernel
theorem d_mo_misfit_99 : decode c_mo_misfit 99 = .ok (.iload 6, 2) := by decide +kernel
theorem d_mo_misfit_101 : decode c_mo_misfit 101 = .ok (.iadd, 1) := by decide +kernel
theorem d_mo_misfit_102 : decode c_mo_misfit 102 = .ok (.iaload, 1) := by decide +kernel
theorem d_mo_misfit_103 : decode c_mo_misfit 103 = .ok (.aload_n 0, 1) := by decide +kernel
theorem d_mo_misfit_104 : decode c_mo_misfit 104 = .ok (.getfield 28, 3) := by decide +kernel
theorem d_mo_misfit_107 : decode c_mo_misfit 107 = .ok (.bipush 6, 2) := by decide +kernel
theorem d_mo_misfit_109 : decode c_mo_misfit 109 = .ok (.iload 5, 2) := by decide +kernel
theorem d_mo_misfit_111 : decode c_mo_misfit 111 = .ok (.imul, 1) := by decide +kernel
theorem d_mo_misfit_112 : decode c_mo_misfit 112 = .ok (.iload 6, 2) := by decide +kernel
theorem d_mo_misfit_114 : decode c_mo_misfit 114 = .ok (.iadd, 1) := by decide +kernel
theorem d_mo_misfit_115 : decode c_mo_misfit 115 = .ok (.iaload, 1) := by decide +kernel
theorem d_mo_misfit_116 : decode c_mo_misfit 116 = .ok (.iconst 1, 1) := by decide +kernel
theorem d_mo_misfit_117 : decode c_mo_misfit 117 = .ok (.iconst 0, 1) := by decide +kernel
theorem d_mo_misfit_118 : decode c_mo_misfit 118 = .ok (.iconst 0, 1) := by decide +kernel
theorem d_mo_misfit_119 : decode c_mo_misfit 119 = .ok (.iconst 0, 1) := by decide +kernel
theorem d_mo_misfit_120 : decode c_mo_misfit 120 = .ok (.invokevirtual 184, 3) := by decide +kernel
theorem d_mo_misfit_123 : decode c_mo_misfit 123 = .ok (.iinc 6 (-1), 3) := by decide +kernel
theorem d_mo_misfit_126 : decode c_mo_misfit 126 = .ok (.goto (-42), 3) := by decide +kernel
theorem d_mo_misfit_129 : decode c_mo_misfit 129 = .ok (.goto (-112), 3) := by decide +kernel
theorem d_mo_misfit_132 : decode c_mo_misfit 132 = .ok (.iconst 0, 1) := by decide +kernel
theorem d_mo_misfit_133 : decode c_mo_misfit 133 = .ok (.ireturn, 1) := by decide +kernel
end
section
/-! types: how they are laid -/
theorem n_typ {x : Int32} {N : Nat} {y : Int32} (hy : y = nI N) (hN : N ≤ 32) (h : ¬ x < 0 ∧ ¬ y ≤ x) : ∃ j : Nat, j < N ∧ x = nI j := by
  obtain ⟨j, hj, rfl⟩ := nI_of h.1
  exact ⟨j, n_nle N j h.2 hy rfl, rfl⟩
def la_al (dr al : Nat → Nat) : Nat → Nat
  | 0 => 1
  | n + 1 => if al (dr n) ≤ la_al dr al n then la_al dr al n else al (dr n)
def la_dp (dr dp : Nat → Nat) : Nat → Nat
  | 0 => 1
  | n + 1 => if dp (dr n) + 1 ≤ la_dp dr dp n then la_dp dr dp n else dp (dr n) + 1
def la_o (k : Int32) (LA e a : Nat) : Nat := if k = 9 then mo_ut e a else if k = 10 then LA else 0
def la_en (k : Int32) (LA : Nat) (dr al sz : Nat → Nat) : Nat → Nat
  | 0 => 0
  | n + 1 => if k = 9 ∨ la_en k LA dr al sz n < la_o k LA (la_en k LA dr al sz n) (al (dr n)) + sz (dr n) then la_o k LA (la_en k LA dr al sz n) (al (dr n)) + sz (dr n) else la_en k LA dr al sz n
def la_os (k : Int32) (LA : Nat) (dr al sz : Nat → Nat) (f : Nat → Int32) : Nat → Nat → Int32
  | 0 => f
  | n + 1 => upd (la_os k LA dr al sz f n) n (nI (la_o k LA (la_en k LA dr al sz n) (al (dr n))))
def la_ft (k n d : Int32) : Prop := ¬ k < 0 ∧ ¬ 12 < k ∧ ((k = 9 ∨ k = 10) → ¬ d < 1) ∧ (k = 8 → d = 1) ∧ (¬ k = 8 → ¬ k = 9 → ¬ k = 10 → d = 0) ∧ (k = 7 → ¬ n < 1 ∧ ¬ 200 < n) ∧ (¬ k < 11 → ¬ n < 0 ∧ ¬ 3 < n)
def la_a0 (k : Int32) : Int32 := if k = 6 ∨ k = 8 then 2 else mo_psz k
def mo_l3 (F : Nat → Int32) (D A S : Int32) : Nat → Int32 := upd (upd (upd F 56 D) 57 A) 58 S
theorem mo_l3a (F : Nat → Int32) (D A S x : Int32) : upd (mo_l3 F D A S) 56 x = mo_l3 F x A S := by
  funext j; simp only [mo_l3, upd]; split <;> simp_all
theorem mo_l3b (F : Nat → Int32) (D A S x : Int32) : upd (mo_l3 F D A S) 57 x = mo_l3 F D x S := by
  funext j; simp only [mo_l3, upd]; split <;> simp_all
theorem mo_l3c (F : Nat → Int32) (D A S x : Int32) : upd (mo_l3 F D A S) 58 x = mo_l3 F D A x := by
  funext j; simp only [mo_l3, upd]; split <;> simp_all
theorem la_al_le {dr al : Nat → Nat} {nd : Nat} (h : ∀ k, k < nd → 1 ≤ al (dr k) ∧ al (dr k) ≤ 8) : ∀ n, n ≤ nd → 1 ≤ la_al dr al n ∧ la_al dr al n ≤ 8 := by
  intro n hn
  induction n with
  | zero => exact ⟨Nat.le_refl _, by show 1 ≤ 8; decide⟩
  | succ n ih =>
    have h1 := ih (by omega)
    have h2 := h n (by omega)
    rw [la_al]; split <;> omega
theorem la_dp_le {dr dp : Nat → Nat} {nd : Nat} (h : ∀ k, k < nd → dp (dr k) ≤ 5) : ∀ n, n ≤ nd → la_dp dr dp n ≤ 6 := by
  intro n hn
  induction n with
  | zero => show 1 ≤ 6; decide
  | succ n ih =>
    have h1 := ih (by omega)
    have h2 := h n (by omega)
    rw [la_dp]; split <;> omega
theorem mo_ut_le (e a : Nat) (h : 1 ≤ a) : mo_ut e a ≤ e + a - 1 := by
  rw [mo_ut]; exact Nat.div_mul_le_self _ _
theorem la_o_le {k : Int32} {LA e a : Nat} (h : 1 ≤ a) (h2 : a ≤ 8) (h3 : LA ≤ 8) : la_o k LA e a ≤ e + 8 := by
  unfold la_o; split
  · have := mo_ut_le e a h; omega
  · split <;> omega
theorem la_en_le {k : Int32} {LA : Nat} {dr al sz : Nat → Nat} {nd : Nat} (h : ∀ k, k < nd → 1 ≤ al (dr k) ∧ al (dr k) ≤ 8 ∧ sz (dr k) ≤ 96) (h3 : LA ≤ 8) : ∀ n, n ≤ nd → la_en k LA dr al sz n ≤ 104 * n := by
  intro n hn
  induction n with
  | zero => exact Nat.le_refl _
  | succ n ih =>
    have h1 := ih (by omega)
    obtain ⟨a, b, c⟩ := h n (by omega)
    have := la_o_le (k := k) (LA := LA) (e := la_en k LA dr al sz n) a b h3
    rw [la_en]; split <;> omega

theorem la_lim {w : Int32} {c tt NT : Nat} (h0 : ¬ w < 0) (h : w < 5 + nI c) (hc : c ≤ 6) (ht : tt < 32) (h1 : ¬ w = 0) (h2 : ¬ w = 1) (h3 : ¬ w = 2) (h4 : ¬ w = 3) (h5 : ¬ w = 4) : vp_in (6 * nI tt + w - 5) 192 := by
  obtain ⟨j, hj, rfl⟩ := nI_of h0
  have hj2 : j < 5 + c := n_lt j (5 + c) h rfl (by rw [← nI_add]; rfl)
  have g1 := n_ne j 0 h1
  have g2 := n_ne j 1 h2
  have g3 := n_ne j 2 h3
  have g4 := n_ne j 3 h4
  have g5 := n_ne j 4 h5
  rw [n_6, pk_mul, nI_add, show (5 : Int32) = nI 5 from rfl, pk_sub (by omega)]
  exact vp_in_nI (by omega) (by decide)

set_option maxHeartbeats 4000000 in
set_option maxRecDepth 100000 in
theorem mt_layout {l : Launch} {D : va_G} {tl : List (ClassId × FieldType)} {Z : (Nat → Prop) → State → Heap → Prop} {kI kZ : ClassId} {am : Nat → Nat} {F : Nat → Int32} {B : Nat → Nat → Int32} (hZ : ev_Zok Z) (t : Int32) (w : Int32) (NT : Nat) (hNT : F 1 = nI NT) (h32 : NT ≤ 32) (hct : ∀ j, j < NT → ∃ c, c ≤ 6 ∧ B 7 j = nI c) : MT (mo_π l D cl_A kI kZ tl Z) m_layout 0 0 [.ref (am 60), .int t, .int w] (mo_W mo_ci am kI kZ F B) (mo_qi am kI kZ (fun x F1 B1 => ((¬ (¬ t < 0 ∧ ¬ F 1 ≤ t) ∧ x = 0 ∧ F1 = upd F 0 1) ∨ (∃ tt, tt < NT ∧ t = nI tt ∧ (w < 0 ∨ ¬ w < 5 + B 7 tt) ∧ x = 0 ∧ F1 = upd F 0 2) ∨ (∃ tt, tt < NT ∧ t = nI tt ∧ ¬ w < 0 ∧ w < 5 + B 7 tt ∧ x = (if w = 0 then B 2 tt else if w = 1 then B 4 tt else if w = 2 then B 5 tt else if w = 3 then B 6 tt else if w = 4 then B 7 tt else B 9 (6 * nI tt + w - 5).toNatClampNeg) ∧ F1 = upd F 0 0)) ∧ B1 = B)) := by
  refine mt_of mo_pl rfl (Nat.le_of_ble_eq_true rfl) (ev_eq (lv' := [some (.ref (am 60)), some (.int t), some (.int w)]) ?_)
  refine ev_aload_0 0 d_mo_layout_0 ?_
  refine ev_aload_0 1 d_mo_layout_1 ?_
  refine ev_iload_1 2 d_mo_layout_2 ?_
  refine mo_calli1 3 d_mo_layout_3 hZ kc_150 (mt_isType hZ _) (fun y F1 B1 h => ?_)
  obtain ⟨hy, e1, e2⟩ := h
  subst F1
  subst B1
  refine ev_ifne 6 13 d_mo_layout_6 (fun c6 => ?_) (fun c6 => ?_)
  · obtain ⟨tt, htt, rfl⟩ := n_typ hNT h32 (mo_b1 hy c6)
    refine ev_iload_2 13 d_mo_layout_13 ?_
    refine ev_iflt 14 29 d_mo_layout_14 (fun c14 => ?_) (fun c14 => ?_)
    · refine ev_iconst_2 29 d_mo_layout_29 ?_
      refine ev_goto 30 34 d_mo_layout_30 ?_
      refine mo_calli1 34 d_mo_layout_34 hZ kc_157 (mt_refuses hZ _) (fun x F1 B1 h => ?_)
      obtain ⟨hx, e1, e2⟩ := h
      subst F1
      subst B1
      refine ev_ifeq 37 42 d_mo_layout_37 (fun c37 => ?_) (fun c37 => ?_)
      · exact absurd c37 (mo_rk hx (by decide))
      · refine ev_iconst_0 40 d_mo_layout_40 ?_
        refine ev_iret 41 d_mo_layout_41 rfl ?_
        exact ⟨_, _, _, rfl, rfl, Or.inr (Or.inl ⟨tt, htt, rfl, Or.inl c14, rfl, rfl⟩), rfl⟩
    · refine ev_iload_2 17 d_mo_layout_17 ?_
      refine ev_iconst_5 18 d_mo_layout_18 ?_
      refine ev_aload_0 19 d_mo_layout_19 ?_
      refine mo_getr 20 5 7 d_mo_layout_20 lk_25 ?_
      refine ev_iload_1 23 d_mo_layout_23 ?_
      refine mo_aldn (j := tt) 24 5 7 d_mo_layout_24 (by show tt < 32; omega) ?_
      refine ev_iadd 25 d_mo_layout_25 ?_
      refine ev_icmplt 26 33 d_mo_layout_26 (fun c26 => ?_) (fun c26 => ?_)
      · refine ev_iconst_0 33 d_mo_layout_33 ?_
        refine mo_calli1 34 d_mo_layout_34 hZ kc_157 (mt_refuses hZ _) (fun x F1 B1 h => ?_)
        obtain ⟨hx, e1, e2⟩ := h
        subst F1
        subst B1
        refine ev_ifeq 37 42 d_mo_layout_37 (fun c37 => ?_) (fun c37 => ?_)
        · refine ev_iload_2 42 d_mo_layout_42 ?_
          refine ev_ifne 43 55 d_mo_layout_43 (fun c43 => ?_) (fun c43 => ?_)
          · refine ev_iload_2 55 d_mo_layout_55 ?_
            refine ev_iconst_1 56 d_mo_layout_56 ?_
            refine ev_icmpne 57 69 d_mo_layout_57 (fun c57 => ?_) (fun c57 => ?_)
            · refine ev_iload_2 69 d_mo_layout_69 ?_
              refine ev_iconst_2 70 d_mo_layout_70 ?_
              refine ev_icmpne 71 83 d_mo_layout_71 (fun c71 => ?_) (fun c71 => ?_)
              · refine ev_iload_2 83 d_mo_layout_83 ?_
                refine ev_iconst_3 84 d_mo_layout_84 ?_
                refine ev_icmpne 85 97 d_mo_layout_85 (fun c85 => ?_) (fun c85 => ?_)
                · refine ev_iload_2 97 d_mo_layout_97 ?_
                  refine ev_iconst_4 98 d_mo_layout_98 ?_
                  refine ev_icmpne 99 111 d_mo_layout_99 (fun c99 => ?_) (fun c99 => ?_)
                  · refine ev_aload_0 111 d_mo_layout_111 ?_
                    refine mo_getr 112 7 9 d_mo_layout_112 lk_31 ?_
                    refine ev_bipush (6) 115 d_mo_layout_115 (by decide) ?_
                    refine ev_iload_1 117 d_mo_layout_117 ?_
                    refine ev_imul 118 d_mo_layout_118 ?_
                    refine ev_iload_2 119 d_mo_layout_119 ?_
                    refine ev_iadd 120 d_mo_layout_120 ?_
                    refine ev_iconst_5 121 d_mo_layout_121 ?_
                    refine ev_isub 122 d_mo_layout_122 ?_
                    refine mo_ald 123 7 9 d_mo_layout_123 (by obtain ⟨c, hc, hcc⟩ := hct tt htt; exact la_lim (NT := NT) c14 (hcc ▸ c26) hc (by omega) c43 c57 c71 c85 c99) ?_
                    refine ev_iret 124 d_mo_layout_124 rfl ?_
                    exact ⟨_, _, _, rfl, rfl, Or.inr (Or.inr ⟨tt, htt, rfl, c14, c26, by rw [if_neg c43, if_neg c57, if_neg c71, if_neg c85, if_neg c99], rfl⟩), rfl⟩
                  · refine ev_aload_0 102 d_mo_layout_102 ?_
                    refine mo_getr 103 5 7 d_mo_layout_103 lk_25 ?_
                    refine ev_iload_1 106 d_mo_layout_106 ?_
                    refine mo_aldn (j := tt) 107 5 7 d_mo_layout_107 (by show tt < 32; omega) ?_
                    refine ev_goto 108 124 d_mo_layout_108 ?_
                    refine ev_iret 124 d_mo_layout_124 rfl ?_
                    exact ⟨_, _, _, rfl, rfl, Or.inr (Or.inr ⟨tt, htt, rfl, c14, c26, by rw [if_neg c43, if_neg c57, if_neg c71, if_neg c85, if_pos c99], rfl⟩), rfl⟩
                · refine ev_aload_0 88 d_mo_layout_88 ?_
                  refine mo_getr 89 4 6 d_mo_layout_89 lk_22 ?_
                  refine ev_iload_1 92 d_mo_layout_92 ?_
                  refine mo_aldn (j := tt) 93 4 6 d_mo_layout_93 (by show tt < 32; omega) ?_
                  refine ev_goto 94 124 d_mo_layout_94 ?_
                  refine ev_iret 124 d_mo_layout_124 rfl ?_
                  exact ⟨_, _, _, rfl, rfl, Or.inr (Or.inr ⟨tt, htt, rfl, c14, c26, by rw [if_neg c43, if_neg c57, if_neg c71, if_pos c85], rfl⟩), rfl⟩
              · refine ev_aload_0 74 d_mo_layout_74 ?_
                refine mo_getr 75 3 5 d_mo_layout_75 lk_19 ?_
                refine ev_iload_1 78 d_mo_layout_78 ?_
                refine mo_aldn (j := tt) 79 3 5 d_mo_layout_79 (by show tt < 32; omega) ?_
                refine ev_goto 80 124 d_mo_layout_80 ?_
                refine ev_iret 124 d_mo_layout_124 rfl ?_
                exact ⟨_, _, _, rfl, rfl, Or.inr (Or.inr ⟨tt, htt, rfl, c14, c26, by rw [if_neg c43, if_neg c57, if_pos c71], rfl⟩), rfl⟩
            · refine ev_aload_0 60 d_mo_layout_60 ?_
              refine mo_getr 61 2 4 d_mo_layout_61 lk_16 ?_
              refine ev_iload_1 64 d_mo_layout_64 ?_
              refine mo_aldn (j := tt) 65 2 4 d_mo_layout_65 (by show tt < 32; omega) ?_
              refine ev_goto 66 124 d_mo_layout_66 ?_
              refine ev_iret 124 d_mo_layout_124 rfl ?_
              exact ⟨_, _, _, rfl, rfl, Or.inr (Or.inr ⟨tt, htt, rfl, c14, c26, by rw [if_neg c43, if_pos c57], rfl⟩), rfl⟩
          · refine ev_aload_0 46 d_mo_layout_46 ?_
            refine mo_getr 47 0 2 d_mo_layout_47 lk_7 ?_
            refine ev_iload_1 50 d_mo_layout_50 ?_
            refine mo_aldn (j := tt) 51 0 2 d_mo_layout_51 (by show tt < 32; omega) ?_
            refine ev_goto 52 124 d_mo_layout_52 ?_
            refine ev_iret 124 d_mo_layout_124 rfl ?_
            exact ⟨_, _, _, rfl, rfl, Or.inr (Or.inr ⟨tt, htt, rfl, c14, c26, by rw [if_pos c43], rfl⟩), rfl⟩
        · exact absurd (mo_r0 hx) c37
      · refine ev_iconst_2 29 d_mo_layout_29 ?_
        refine ev_goto 30 34 d_mo_layout_30 ?_
        refine mo_calli1 34 d_mo_layout_34 hZ kc_157 (mt_refuses hZ _) (fun x F1 B1 h => ?_)
        obtain ⟨hx, e1, e2⟩ := h
        subst F1
        subst B1
        refine ev_ifeq 37 42 d_mo_layout_37 (fun c37 => ?_) (fun c37 => ?_)
        · exact absurd c37 (mo_rk hx (by decide))
        · refine ev_iconst_0 40 d_mo_layout_40 ?_
          refine ev_iret 41 d_mo_layout_41 rfl ?_
          exact ⟨_, _, _, rfl, rfl, Or.inr (Or.inl ⟨tt, htt, rfl, Or.inr c26, rfl, rfl⟩), rfl⟩
  · refine ev_iconst_1 9 d_mo_layout_9 ?_
    refine ev_goto 10 34 d_mo_layout_10 ?_
    refine mo_calli1 34 d_mo_layout_34 hZ kc_157 (mt_refuses hZ _) (fun x F1 B1 h => ?_)
    obtain ⟨hx, e1, e2⟩ := h
    subst F1
    subst B1
    refine ev_ifeq 37 42 d_mo_layout_37 (fun c37 => ?_) (fun c37 => ?_)
    · exact absurd c37 (mo_rk hx (by decide))
    · refine ev_iconst_0 40 d_mo_layout_40 ?_
      refine ev_iret 41 d_mo_layout_41 rfl ?_
      exact ⟨_, _, _, rfl, rfl, Or.inl ⟨mo_b0 hy c6, rfl, rfl⟩, rfl⟩

set_option maxHeartbeats 4000000 in
set_option maxRecDepth 100000 in
theorem mt_lays {l : Launch} {D : va_G} {tl : List (ClassId × FieldType)} {Z : (Nat → Prop) → State → Heap → Prop} {kI kZ : ClassId} {am : Nat → Nat} {F : Nat → Int32} {B : Nat → Nat → Int32} (hZ : ev_Zok Z) (k : Int32) (n : Int32) (nd : Nat) (hnd : F 10 = nI nd) (hn6 : nd ≤ 6) (dr al sz dp : Nat → Nat) (hdr : ∀ j, j < nd → B 11 j = nI (dr j) ∧ dr j < 32) (hal : ∀ j, j < nd → B 5 (dr j) = nI (al (dr j)) ∧ 1 ≤ al (dr j) ∧ al (dr j) ≤ 8) (hsz : ∀ j, j < nd → B 4 (dr j) = nI (sz (dr j)) ∧ sz (dr j) ≤ 96) (hdp : ∀ j, j < nd → B 6 (dr j) = nI (dp (dr j)) ∧ dp (dr j) ≤ 5) : MT (mo_π l D cl_A kI kZ tl Z) m_lays 0 0 [.ref (am 60), .int k, .int n] (mo_W mo_ci am kI kZ F B) (mo_qi am kI kZ (fun x F1 B1 => (¬ la_ft k n (F 10) ∧ x = 0 ∧ F1 = F ∧ B1 = B) ∨ (la_ft k n (F 10) ∧ mo_bl x (¬ 5 < nI (la_dp dr dp nd) ∧ ¬ 96 < (if k = 9 ∨ k = 10 then nI (mo_ut (la_en k (la_al dr al nd) dr al sz nd) (la_al dr al nd)) else mo_psz k)) ∧ F1 = mo_l3 F (nI (la_dp dr dp nd)) (if k = 9 ∨ k = 10 then nI (la_al dr al nd) else la_a0 k) (if k = 9 ∨ k = 10 then nI (mo_ut (la_en k (la_al dr al nd) dr al sz nd) (la_al dr al nd)) else mo_psz k) ∧ B1 = va_up B 59 (la_os k (la_al dr al nd) dr al sz (B 59) nd)))) := by
  refine mt_of mo_pl rfl (Nat.le_of_ble_eq_true rfl) (ev_eq (lv' := [some (.ref (am 60)), some (.int k), some (.int n), none, none, none, none, none, none]) ?_)
  have hal8 : ∀ j, j ≤ nd → 1 ≤ la_al dr al j ∧ la_al dr al j ≤ 8 := la_al_le (fun j hj => (hal j hj).2)
  have hen : ∀ j, j ≤ nd → la_en k (la_al dr al nd) dr al sz j ≤ 104 * j := la_en_le (fun j hj => ⟨(hal j hj).2.1, (hal j hj).2.2, (hsz j hj).2⟩) (hal8 nd (Nat.le_refl _)).2
  have L220 : ∀ (mm : Int32), mo_bl mm (k = 9 ∨ k = 10) → la_ft k n (F 10) → ∀ (m j : Nat) (o7 o8 : Option Value), nd - j < m → j ≤ nd → EV (mo_π l D cl_A kI kZ tl Z) m_lays (ev_E (mo_π l D cl_A kI kZ tl Z) 0 0 (mo_qi am kI kZ (fun x F1 B1 => (¬ la_ft k n (F 10) ∧ x = 0 ∧ F1 = F ∧ B1 = B) ∨ (la_ft k n (F 10) ∧ mo_bl x (¬ 5 < nI (la_dp dr dp nd) ∧ ¬ 96 < (if k = 9 ∨ k = 10 then nI (mo_ut (la_en k (la_al dr al nd) dr al sz nd) (la_al dr al nd)) else mo_psz k)) ∧ F1 = mo_l3 F (nI (la_dp dr dp nd)) (if k = 9 ∨ k = 10 then nI (la_al dr al nd) else la_a0 k) (if k = 9 ∨ k = 10 then nI (mo_ut (la_en k (la_al dr al nd) dr al sz nd) (la_al dr al nd)) else mo_psz k) ∧ B1 = va_up B 59 (la_os k (la_al dr al nd) dr al sz (B 59) nd))))) 0 0 220 [some (.ref (am 60)), some (.int k), some (.int n), some (.int mm), some (.int 1), some (.int (nI (la_en k (la_al dr al nd) dr al sz j))), some (.int (nI j)), o7, o8] [] (mo_W mo_ci am kI kZ (mo_l3 F (nI (la_dp dr dp j)) (if k = 9 ∨ k = 10 then nI (la_al dr al nd) else la_a0 k) (mo_psz k)) (va_up B 59 (la_os k (la_al dr al nd) dr al sz (B 59) j))) := by
    intro mm hmm hft m
    induction m with
    | zero => intro j o7 o8 h; omega
    | succ m ih =>
      intro j o7 o8 hm hj
      have hej := hen j hj
      have hla := hal8 nd (Nat.le_refl _)
      have hdl : la_dp dr dp j ≤ 6 := la_dp_le (fun j hj => (hdp j hj).2) j hj
      refine ev_iload_6 220 d_mo_lays_220 ?_
      refine ev_aload_0 222 d_mo_lays_222 ?_
      refine mo_geti 223 10 d_mo_lays_223 lk_154 ?_
      refine ev_icmpge 226 361 d_mo_lays_226 (fun c226 => ?_) (fun c226 => ?_)
      · have h226 := n_le nd j c226 hnd
        have ej : j = nd := by omega
        subst j
        refine ev_aload_0 361 d_mo_lays_361 ?_
        refine ev_iload_3 362 d_mo_lays_362 ?_
        refine ev_ifeq 363 378 d_mo_lays_363 (fun c363 => ?_) (fun c363 => ?_)
        · have hmn := mo_b0 hmm c363
          refine ev_aload_0 378 d_mo_lays_378 ?_
          refine mo_geti 379 58 d_mo_lays_379 lk_170 ?_
          refine ev_topi (if k = 9 ∨ k = 10 then nI (mo_ut (la_en k (la_al dr al nd) dr al sz nd) (la_al dr al nd)) else mo_psz k) (Eq.symm (if_neg hmn)) ?_
          refine mo_puti 382 58 d_mo_lays_382 lp_170 ?_
          rw [mo_l3c]
          refine ev_aload_0 385 d_mo_lays_385 ?_
          refine mo_geti 386 56 d_mo_lays_386 lk_160 ?_
          refine ev_iconst_5 389 d_mo_lays_389 ?_
          refine ev_icmpgt 390 406 d_mo_lays_390 (fun c390 => ?_) (fun c390 => ?_)
          · refine ev_iconst_0 406 d_mo_lays_406 ?_
            refine ev_zret 407 d_mo_lays_407 rfl ?_ ?_
            · rfl
            exact ⟨_, _, _, rfl, rfl, Or.inr ⟨hft, Or.inr ⟨rfl, fun z => z.1 c390⟩, rfl, rfl⟩⟩
          · refine ev_aload_0 393 d_mo_lays_393 ?_
            refine mo_geti 394 58 d_mo_lays_394 lk_170 ?_
            refine ev_bipush (96) 397 d_mo_lays_397 (by decide) ?_
            refine ev_icmpgt 399 406 d_mo_lays_399 (fun c399 => ?_) (fun c399 => ?_)
            · refine ev_iconst_0 406 d_mo_lays_406 ?_
              refine ev_zret 407 d_mo_lays_407 rfl ?_ ?_
              · rfl
              exact ⟨_, _, _, rfl, rfl, Or.inr ⟨hft, Or.inr ⟨rfl, fun z => z.2 c399⟩, rfl, rfl⟩⟩
            · refine ev_iconst_1 402 d_mo_lays_402 ?_
              refine ev_goto 403 407 d_mo_lays_403 ?_
              refine ev_zret 407 d_mo_lays_407 rfl ?_ ?_
              · rfl
              exact ⟨_, _, _, rfl, rfl, Or.inr ⟨hft, Or.inl ⟨rfl, c390, c399⟩, rfl, rfl⟩⟩
        · have hmn := mo_b1 hmm c363
          refine ev_iload_5 366 d_mo_lays_366 ?_
          refine ev_aload_0 368 d_mo_lays_368 ?_
          refine mo_geti 369 57 d_mo_lays_369 lk_167 ?_
          refine ev_topi (nI (la_al dr al nd)) (if_pos hmn) ?_
          refine mo_scalli2 372 d_mo_lays_372 hZ kc_173 (mt_upTo hZ _ _ (fun z => absurd ((n_z (by omega)).mp z) (by omega))) (fun y F9 B9 h => ?_)
          obtain ⟨rfl, e1, e2⟩ := h
          subst F9
          subst B9
          refine ev_topi (nI (mo_ut (la_en k (la_al dr al nd) dr al sz nd) (la_al dr al nd))) (mo_ut_eq (by omega) (by omega) (by omega)) ?_
          refine ev_goto 375 382 d_mo_lays_375 ?_
          refine ev_topi (if k = 9 ∨ k = 10 then nI (mo_ut (la_en k (la_al dr al nd) dr al sz nd) (la_al dr al nd)) else mo_psz k) (Eq.symm (if_pos hmn)) ?_
          refine mo_puti 382 58 d_mo_lays_382 lp_170 ?_
          rw [mo_l3c]
          refine ev_aload_0 385 d_mo_lays_385 ?_
          refine mo_geti 386 56 d_mo_lays_386 lk_160 ?_
          refine ev_iconst_5 389 d_mo_lays_389 ?_
          refine ev_icmpgt 390 406 d_mo_lays_390 (fun c390 => ?_) (fun c390 => ?_)
          · refine ev_iconst_0 406 d_mo_lays_406 ?_
            refine ev_zret 407 d_mo_lays_407 rfl ?_ ?_
            · rfl
            exact ⟨_, _, _, rfl, rfl, Or.inr ⟨hft, Or.inr ⟨rfl, fun z => z.1 c390⟩, rfl, rfl⟩⟩
          · refine ev_aload_0 393 d_mo_lays_393 ?_
            refine mo_geti 394 58 d_mo_lays_394 lk_170 ?_
            refine ev_bipush (96) 397 d_mo_lays_397 (by decide) ?_
            refine ev_icmpgt 399 406 d_mo_lays_399 (fun c399 => ?_) (fun c399 => ?_)
            · refine ev_iconst_0 406 d_mo_lays_406 ?_
              refine ev_zret 407 d_mo_lays_407 rfl ?_ ?_
              · rfl
              exact ⟨_, _, _, rfl, rfl, Or.inr ⟨hft, Or.inr ⟨rfl, fun z => z.2 c399⟩, rfl, rfl⟩⟩
            · refine ev_iconst_1 402 d_mo_lays_402 ?_
              refine ev_goto 403 407 d_mo_lays_403 ?_
              refine ev_zret 407 d_mo_lays_407 rfl ?_ ?_
              · rfl
              exact ⟨_, _, _, rfl, rfl, Or.inr ⟨hft, Or.inl ⟨rfl, c390, c399⟩, rfl, rfl⟩⟩
      · have h226 := n_nle nd j c226 hnd
        refine ev_aload_0 229 d_mo_lays_229 ?_
        refine mo_getr 230 8 11 d_mo_lays_230 lk_34 ?_
        refine ev_iload_6 233 d_mo_lays_233 ?_
        refine mo_aldn (j := j) 235 8 11 d_mo_lays_235 (by show j < 6; omega) ?_
        refine ev_topi (nI (dr j)) (hdr j (by omega)).1 ?_
        have hdj := hdp j (by omega)
        have haj := hal j (by omega)
        have hsj := hsz j (by omega)
        have hoj := la_o_le (k := k) (LA := (la_al dr al nd)) (e := la_en k (la_al dr al nd) dr al sz j) haj.2.1 haj.2.2 hla.2
        refine ev_istore_7 236 d_mo_lays_236 ?_
        refine ev_aload_0 238 d_mo_lays_238 ?_
        refine ev_aload_0 239 d_mo_lays_239 ?_
        refine mo_getr 240 4 6 d_mo_lays_240 lk_22 ?_
        refine ev_iload_7 243 d_mo_lays_243 ?_
        refine mo_aldn (j := dr j) 245 4 6 d_mo_lays_245 (by exact (hdr j (by omega)).2) ?_
        refine ev_topi (nI (dp (dr j))) hdj.1 ?_
        refine ev_iconst_1 246 d_mo_lays_246 ?_
        refine ev_iadd 247 d_mo_lays_247 ?_
        rw [nI_1]
        refine ev_aload_0 248 d_mo_lays_248 ?_
        refine mo_geti 249 56 d_mo_lays_249 lk_160 ?_
        refine ev_icmple 252 267 d_mo_lays_252 (fun c252 => ?_) (fun c252 => ?_)
        · refine ev_aload_0 267 d_mo_lays_267 ?_
          refine mo_geti 268 56 d_mo_lays_268 lk_160 ?_
          refine mo_puti 271 56 d_mo_lays_271 lp_160 ?_
          rw [mo_l3a]
          refine ev_aload_0 274 d_mo_lays_274 ?_
          refine mo_getr 275 41 59 d_mo_lays_275 lk_138 ?_
          refine ev_iload_6 278 d_mo_lays_278 ?_
          refine ev_iload_1 280 d_mo_lays_280 ?_
          refine ev_bipush (9) 281 d_mo_lays_281 (by decide) ?_
          refine ev_icmpne 283 301 d_mo_lays_283 (fun c283 => ?_) (fun c283 => ?_)
          · refine ev_iload_1 301 d_mo_lays_301 ?_
            refine ev_bipush (10) 302 d_mo_lays_302 (by decide) ?_
            refine ev_icmpne 304 314 d_mo_lays_304 (fun c304 => ?_) (fun c304 => ?_)
            · refine ev_iconst_0 314 d_mo_lays_314 ?_
              refine ev_topi (nI (la_o k (la_al dr al nd) (la_en k (la_al dr al nd) dr al sz j) (al (dr j)))) (by rw [la_o, if_neg c283, if_neg c304]; rfl) ?_
              refine mo_astn (j := j) 315 41 59 d_mo_lays_315 (by show j < 6; omega) ?_
              refine ev_aload_0 316 d_mo_lays_316 ?_
              refine mo_getr 317 41 59 d_mo_lays_317 lk_138 ?_
              refine ev_iload_6 320 d_mo_lays_320 ?_
              refine mo_aldn (j := j) 322 41 59 d_mo_lays_322 (by show j < 6; omega) ?_
              refine ev_topi (nI (la_o k (la_al dr al nd) (la_en k (la_al dr al nd) dr al sz j) (al (dr j)))) (by simp only [va_up, upd, if_true]) ?_
              refine ev_aload_0 323 d_mo_lays_323 ?_
              refine mo_getr 324 2 4 d_mo_lays_324 lk_16 ?_
              refine ev_iload_7 327 d_mo_lays_327 ?_
              refine mo_aldn (j := dr j) 329 2 4 d_mo_lays_329 (by exact (hdr j (by omega)).2) ?_
              refine ev_topi (nI (sz (dr j))) hsj.1 ?_
              refine ev_iadd 330 d_mo_lays_330 ?_
              rw [nI_add]
              refine ev_istore_8 331 d_mo_lays_331 ?_
              refine ev_iload_1 333 d_mo_lays_333 ?_
              refine ev_bipush (9) 334 d_mo_lays_334 (by decide) ?_
              refine ev_icmpeq 336 346 d_mo_lays_336 (fun c336 => ?_) (fun c336 => ?_)
              · refine ev_iload_8 346 d_mo_lays_346 ?_
                refine ev_goto 348 353 d_mo_lays_348 ?_
                refine ev_istore_5 353 d_mo_lays_353 ?_
                refine ev_iinc_6 355 d_mo_lays_355 ?_
                refine ev_goto 358 220 d_mo_lays_358 ?_
                exact ev_eq (ih (j + 1) _ _ (by omega) (by omega)) (h1 := by rw [n_i1, la_en, if_pos (Or.inl c336)]) (h3 := by rw [la_dp, if_pos (n_le (dp (dr j) + 1) (la_dp dr dp j) c252)]; exact congrArg (mo_W mo_ci am kI kZ _) (bx_uu _ 59 _ _))
              · refine ev_iload_8 339 d_mo_lays_339 ?_
                refine ev_iload_5 341 d_mo_lays_341 ?_
                refine ev_icmple 343 351 d_mo_lays_343 (fun c343 => ?_) (fun c343 => ?_)
                · refine ev_iload_5 351 d_mo_lays_351 ?_
                  refine ev_istore_5 353 d_mo_lays_353 ?_
                  refine ev_iinc_6 355 d_mo_lays_355 ?_
                  refine ev_goto 358 220 d_mo_lays_358 ?_
                  exact ev_eq (ih (j + 1) _ _ (by omega) (by omega)) (h1 := by rw [n_i1, la_en, if_neg (show ¬ (k = 9 ∨ la_en k (la_al dr al nd) dr al sz j < la_o k (la_al dr al nd) (la_en k (la_al dr al nd) dr al sz j) (al (dr j)) + sz (dr j)) by have := n_le (la_o k (la_al dr al nd) (la_en k (la_al dr al nd) dr al sz j) (al (dr j)) + sz (dr j)) (la_en k (la_al dr al nd) dr al sz j) c343; exact fun z => z.elim c336 (fun z => by omega))]) (h3 := by rw [la_dp, if_pos (n_le (dp (dr j) + 1) (la_dp dr dp j) c252)]; exact congrArg (mo_W mo_ci am kI kZ _) (bx_uu _ 59 _ _))
                · refine ev_iload_8 346 d_mo_lays_346 ?_
                  refine ev_goto 348 353 d_mo_lays_348 ?_
                  refine ev_istore_5 353 d_mo_lays_353 ?_
                  refine ev_iinc_6 355 d_mo_lays_355 ?_
                  refine ev_goto 358 220 d_mo_lays_358 ?_
                  exact ev_eq (ih (j + 1) _ _ (by omega) (by omega)) (h1 := by rw [n_i1, la_en, if_pos (Or.inr (n_nle (la_o k (la_al dr al nd) (la_en k (la_al dr al nd) dr al sz j) (al (dr j)) + sz (dr j)) (la_en k (la_al dr al nd) dr al sz j) c343))]) (h3 := by rw [la_dp, if_pos (n_le (dp (dr j) + 1) (la_dp dr dp j) c252)]; exact congrArg (mo_W mo_ci am kI kZ _) (bx_uu _ 59 _ _))
            · refine ev_aload_0 307 d_mo_lays_307 ?_
              refine mo_geti 308 57 d_mo_lays_308 lk_167 ?_
              refine ev_goto 311 315 d_mo_lays_311 ?_
              refine ev_topi (nI (la_o k (la_al dr al nd) (la_en k (la_al dr al nd) dr al sz j) (al (dr j)))) (by rw [la_o, if_neg c283, if_pos c304]; show (if k = 9 ∨ k = 10 then nI (la_al dr al nd) else la_a0 k) = _; rw [if_pos (Or.inr c304)]) ?_
              refine mo_astn (j := j) 315 41 59 d_mo_lays_315 (by show j < 6; omega) ?_
              refine ev_aload_0 316 d_mo_lays_316 ?_
              refine mo_getr 317 41 59 d_mo_lays_317 lk_138 ?_
              refine ev_iload_6 320 d_mo_lays_320 ?_
              refine mo_aldn (j := j) 322 41 59 d_mo_lays_322 (by show j < 6; omega) ?_
              refine ev_topi (nI (la_o k (la_al dr al nd) (la_en k (la_al dr al nd) dr al sz j) (al (dr j)))) (by simp only [va_up, upd, if_true]) ?_
              refine ev_aload_0 323 d_mo_lays_323 ?_
              refine mo_getr 324 2 4 d_mo_lays_324 lk_16 ?_
              refine ev_iload_7 327 d_mo_lays_327 ?_
              refine mo_aldn (j := dr j) 329 2 4 d_mo_lays_329 (by exact (hdr j (by omega)).2) ?_
              refine ev_topi (nI (sz (dr j))) hsj.1 ?_
              refine ev_iadd 330 d_mo_lays_330 ?_
              rw [nI_add]
              refine ev_istore_8 331 d_mo_lays_331 ?_
              refine ev_iload_1 333 d_mo_lays_333 ?_
              refine ev_bipush (9) 334 d_mo_lays_334 (by decide) ?_
              refine ev_icmpeq 336 346 d_mo_lays_336 (fun c336 => ?_) (fun c336 => ?_)
              · refine ev_iload_8 346 d_mo_lays_346 ?_
                refine ev_goto 348 353 d_mo_lays_348 ?_
                refine ev_istore_5 353 d_mo_lays_353 ?_
                refine ev_iinc_6 355 d_mo_lays_355 ?_
                refine ev_goto 358 220 d_mo_lays_358 ?_
                exact ev_eq (ih (j + 1) _ _ (by omega) (by omega)) (h1 := by rw [n_i1, la_en, if_pos (Or.inl c336)]) (h3 := by rw [la_dp, if_pos (n_le (dp (dr j) + 1) (la_dp dr dp j) c252)]; exact congrArg (mo_W mo_ci am kI kZ _) (bx_uu _ 59 _ _))
              · refine ev_iload_8 339 d_mo_lays_339 ?_
                refine ev_iload_5 341 d_mo_lays_341 ?_
                refine ev_icmple 343 351 d_mo_lays_343 (fun c343 => ?_) (fun c343 => ?_)
                · refine ev_iload_5 351 d_mo_lays_351 ?_
                  refine ev_istore_5 353 d_mo_lays_353 ?_
                  refine ev_iinc_6 355 d_mo_lays_355 ?_
                  refine ev_goto 358 220 d_mo_lays_358 ?_
                  exact ev_eq (ih (j + 1) _ _ (by omega) (by omega)) (h1 := by rw [n_i1, la_en, if_neg (show ¬ (k = 9 ∨ la_en k (la_al dr al nd) dr al sz j < la_o k (la_al dr al nd) (la_en k (la_al dr al nd) dr al sz j) (al (dr j)) + sz (dr j)) by have := n_le (la_o k (la_al dr al nd) (la_en k (la_al dr al nd) dr al sz j) (al (dr j)) + sz (dr j)) (la_en k (la_al dr al nd) dr al sz j) c343; exact fun z => z.elim c336 (fun z => by omega))]) (h3 := by rw [la_dp, if_pos (n_le (dp (dr j) + 1) (la_dp dr dp j) c252)]; exact congrArg (mo_W mo_ci am kI kZ _) (bx_uu _ 59 _ _))
                · refine ev_iload_8 346 d_mo_lays_346 ?_
                  refine ev_goto 348 353 d_mo_lays_348 ?_
                  refine ev_istore_5 353 d_mo_lays_353 ?_
                  refine ev_iinc_6 355 d_mo_lays_355 ?_
                  refine ev_goto 358 220 d_mo_lays_358 ?_
                  exact ev_eq (ih (j + 1) _ _ (by omega) (by omega)) (h1 := by rw [n_i1, la_en, if_pos (Or.inr (n_nle (la_o k (la_al dr al nd) (la_en k (la_al dr al nd) dr al sz j) (al (dr j)) + sz (dr j)) (la_en k (la_al dr al nd) dr al sz j) c343))]) (h3 := by rw [la_dp, if_pos (n_le (dp (dr j) + 1) (la_dp dr dp j) c252)]; exact congrArg (mo_W mo_ci am kI kZ _) (bx_uu _ 59 _ _))
          · refine ev_iload_5 286 d_mo_lays_286 ?_
            refine ev_aload_0 288 d_mo_lays_288 ?_
            refine mo_getr 289 3 5 d_mo_lays_289 lk_19 ?_
            refine ev_iload_7 292 d_mo_lays_292 ?_
            refine mo_aldn (j := dr j) 294 3 5 d_mo_lays_294 (by exact (hdr j (by omega)).2) ?_
            refine ev_topi (nI (al (dr j))) haj.1 ?_
            refine mo_scalli2 295 d_mo_lays_295 hZ kc_173 (mt_upTo hZ _ _ (fun z => absurd ((n_z (by omega)).mp z) (by omega))) (fun y F9 B9 h => ?_)
            obtain ⟨rfl, e1, e2⟩ := h
            subst F9
            subst B9
            refine ev_topi (nI (mo_ut (la_en k (la_al dr al nd) dr al sz j) (al (dr j)))) (mo_ut_eq (by omega) (by omega) (by omega)) ?_
            refine ev_goto 298 315 d_mo_lays_298 ?_
            refine ev_topi (nI (la_o k (la_al dr al nd) (la_en k (la_al dr al nd) dr al sz j) (al (dr j)))) (by rw [la_o, if_pos c283]) ?_
            refine mo_astn (j := j) 315 41 59 d_mo_lays_315 (by show j < 6; omega) ?_
            refine ev_aload_0 316 d_mo_lays_316 ?_
            refine mo_getr 317 41 59 d_mo_lays_317 lk_138 ?_
            refine ev_iload_6 320 d_mo_lays_320 ?_
            refine mo_aldn (j := j) 322 41 59 d_mo_lays_322 (by show j < 6; omega) ?_
            refine ev_topi (nI (la_o k (la_al dr al nd) (la_en k (la_al dr al nd) dr al sz j) (al (dr j)))) (by simp only [va_up, upd, if_true]) ?_
            refine ev_aload_0 323 d_mo_lays_323 ?_
            refine mo_getr 324 2 4 d_mo_lays_324 lk_16 ?_
            refine ev_iload_7 327 d_mo_lays_327 ?_
            refine mo_aldn (j := dr j) 329 2 4 d_mo_lays_329 (by exact (hdr j (by omega)).2) ?_
            refine ev_topi (nI (sz (dr j))) hsj.1 ?_
            refine ev_iadd 330 d_mo_lays_330 ?_
            rw [nI_add]
            refine ev_istore_8 331 d_mo_lays_331 ?_
            refine ev_iload_1 333 d_mo_lays_333 ?_
            refine ev_bipush (9) 334 d_mo_lays_334 (by decide) ?_
            refine ev_icmpeq 336 346 d_mo_lays_336 (fun c336 => ?_) (fun c336 => ?_)
            · refine ev_iload_8 346 d_mo_lays_346 ?_
              refine ev_goto 348 353 d_mo_lays_348 ?_
              refine ev_istore_5 353 d_mo_lays_353 ?_
              refine ev_iinc_6 355 d_mo_lays_355 ?_
              refine ev_goto 358 220 d_mo_lays_358 ?_
              exact ev_eq (ih (j + 1) _ _ (by omega) (by omega)) (h1 := by rw [n_i1, la_en, if_pos (Or.inl c336)]) (h3 := by rw [la_dp, if_pos (n_le (dp (dr j) + 1) (la_dp dr dp j) c252)]; exact congrArg (mo_W mo_ci am kI kZ _) (bx_uu _ 59 _ _))
            · refine ev_iload_8 339 d_mo_lays_339 ?_
              refine ev_iload_5 341 d_mo_lays_341 ?_
              refine ev_icmple 343 351 d_mo_lays_343 (fun c343 => ?_) (fun c343 => ?_)
              · refine ev_iload_5 351 d_mo_lays_351 ?_
                refine ev_istore_5 353 d_mo_lays_353 ?_
                refine ev_iinc_6 355 d_mo_lays_355 ?_
                refine ev_goto 358 220 d_mo_lays_358 ?_
                exact ev_eq (ih (j + 1) _ _ (by omega) (by omega)) (h1 := by rw [n_i1, la_en, if_neg (show ¬ (k = 9 ∨ la_en k (la_al dr al nd) dr al sz j < la_o k (la_al dr al nd) (la_en k (la_al dr al nd) dr al sz j) (al (dr j)) + sz (dr j)) by have := n_le (la_o k (la_al dr al nd) (la_en k (la_al dr al nd) dr al sz j) (al (dr j)) + sz (dr j)) (la_en k (la_al dr al nd) dr al sz j) c343; exact fun z => z.elim c336 (fun z => by omega))]) (h3 := by rw [la_dp, if_pos (n_le (dp (dr j) + 1) (la_dp dr dp j) c252)]; exact congrArg (mo_W mo_ci am kI kZ _) (bx_uu _ 59 _ _))
              · refine ev_iload_8 346 d_mo_lays_346 ?_
                refine ev_goto 348 353 d_mo_lays_348 ?_
                refine ev_istore_5 353 d_mo_lays_353 ?_
                refine ev_iinc_6 355 d_mo_lays_355 ?_
                refine ev_goto 358 220 d_mo_lays_358 ?_
                exact ev_eq (ih (j + 1) _ _ (by omega) (by omega)) (h1 := by rw [n_i1, la_en, if_pos (Or.inr (n_nle (la_o k (la_al dr al nd) (la_en k (la_al dr al nd) dr al sz j) (al (dr j)) + sz (dr j)) (la_en k (la_al dr al nd) dr al sz j) c343))]) (h3 := by rw [la_dp, if_pos (n_le (dp (dr j) + 1) (la_dp dr dp j) c252)]; exact congrArg (mo_W mo_ci am kI kZ _) (bx_uu _ 59 _ _))
        · refine ev_aload_0 255 d_mo_lays_255 ?_
          refine mo_getr 256 4 6 d_mo_lays_256 lk_22 ?_
          refine ev_iload_7 259 d_mo_lays_259 ?_
          refine mo_aldn (j := dr j) 261 4 6 d_mo_lays_261 (by exact (hdr j (by omega)).2) ?_
          refine ev_topi (nI (dp (dr j))) hdj.1 ?_
          refine ev_iconst_1 262 d_mo_lays_262 ?_
          refine ev_iadd 263 d_mo_lays_263 ?_
          rw [nI_1]
          refine ev_goto 264 271 d_mo_lays_264 ?_
          refine mo_puti 271 56 d_mo_lays_271 lp_160 ?_
          rw [mo_l3a]
          refine ev_aload_0 274 d_mo_lays_274 ?_
          refine mo_getr 275 41 59 d_mo_lays_275 lk_138 ?_
          refine ev_iload_6 278 d_mo_lays_278 ?_
          refine ev_iload_1 280 d_mo_lays_280 ?_
          refine ev_bipush (9) 281 d_mo_lays_281 (by decide) ?_
          refine ev_icmpne 283 301 d_mo_lays_283 (fun c283 => ?_) (fun c283 => ?_)
          · refine ev_iload_1 301 d_mo_lays_301 ?_
            refine ev_bipush (10) 302 d_mo_lays_302 (by decide) ?_
            refine ev_icmpne 304 314 d_mo_lays_304 (fun c304 => ?_) (fun c304 => ?_)
            · refine ev_iconst_0 314 d_mo_lays_314 ?_
              refine ev_topi (nI (la_o k (la_al dr al nd) (la_en k (la_al dr al nd) dr al sz j) (al (dr j)))) (by rw [la_o, if_neg c283, if_neg c304]; rfl) ?_
              refine mo_astn (j := j) 315 41 59 d_mo_lays_315 (by show j < 6; omega) ?_
              refine ev_aload_0 316 d_mo_lays_316 ?_
              refine mo_getr 317 41 59 d_mo_lays_317 lk_138 ?_
              refine ev_iload_6 320 d_mo_lays_320 ?_
              refine mo_aldn (j := j) 322 41 59 d_mo_lays_322 (by show j < 6; omega) ?_
              refine ev_topi (nI (la_o k (la_al dr al nd) (la_en k (la_al dr al nd) dr al sz j) (al (dr j)))) (by simp only [va_up, upd, if_true]) ?_
              refine ev_aload_0 323 d_mo_lays_323 ?_
              refine mo_getr 324 2 4 d_mo_lays_324 lk_16 ?_
              refine ev_iload_7 327 d_mo_lays_327 ?_
              refine mo_aldn (j := dr j) 329 2 4 d_mo_lays_329 (by exact (hdr j (by omega)).2) ?_
              refine ev_topi (nI (sz (dr j))) hsj.1 ?_
              refine ev_iadd 330 d_mo_lays_330 ?_
              rw [nI_add]
              refine ev_istore_8 331 d_mo_lays_331 ?_
              refine ev_iload_1 333 d_mo_lays_333 ?_
              refine ev_bipush (9) 334 d_mo_lays_334 (by decide) ?_
              refine ev_icmpeq 336 346 d_mo_lays_336 (fun c336 => ?_) (fun c336 => ?_)
              · refine ev_iload_8 346 d_mo_lays_346 ?_
                refine ev_goto 348 353 d_mo_lays_348 ?_
                refine ev_istore_5 353 d_mo_lays_353 ?_
                refine ev_iinc_6 355 d_mo_lays_355 ?_
                refine ev_goto 358 220 d_mo_lays_358 ?_
                exact ev_eq (ih (j + 1) _ _ (by omega) (by omega)) (h1 := by rw [n_i1, la_en, if_pos (Or.inl c336)]) (h3 := by rw [la_dp, if_neg (show ¬ dp (dr j) + 1 ≤ la_dp dr dp j by have := n_nle (dp (dr j) + 1) (la_dp dr dp j) c252; omega)]; exact congrArg (mo_W mo_ci am kI kZ _) (bx_uu _ 59 _ _))
              · refine ev_iload_8 339 d_mo_lays_339 ?_
                refine ev_iload_5 341 d_mo_lays_341 ?_
                refine ev_icmple 343 351 d_mo_lays_343 (fun c343 => ?_) (fun c343 => ?_)
                · refine ev_iload_5 351 d_mo_lays_351 ?_
                  refine ev_istore_5 353 d_mo_lays_353 ?_
                  refine ev_iinc_6 355 d_mo_lays_355 ?_
                  refine ev_goto 358 220 d_mo_lays_358 ?_
                  exact ev_eq (ih (j + 1) _ _ (by omega) (by omega)) (h1 := by rw [n_i1, la_en, if_neg (show ¬ (k = 9 ∨ la_en k (la_al dr al nd) dr al sz j < la_o k (la_al dr al nd) (la_en k (la_al dr al nd) dr al sz j) (al (dr j)) + sz (dr j)) by have := n_le (la_o k (la_al dr al nd) (la_en k (la_al dr al nd) dr al sz j) (al (dr j)) + sz (dr j)) (la_en k (la_al dr al nd) dr al sz j) c343; exact fun z => z.elim c336 (fun z => by omega))]) (h3 := by rw [la_dp, if_neg (show ¬ dp (dr j) + 1 ≤ la_dp dr dp j by have := n_nle (dp (dr j) + 1) (la_dp dr dp j) c252; omega)]; exact congrArg (mo_W mo_ci am kI kZ _) (bx_uu _ 59 _ _))
                · refine ev_iload_8 346 d_mo_lays_346 ?_
                  refine ev_goto 348 353 d_mo_lays_348 ?_
                  refine ev_istore_5 353 d_mo_lays_353 ?_
                  refine ev_iinc_6 355 d_mo_lays_355 ?_
                  refine ev_goto 358 220 d_mo_lays_358 ?_
                  exact ev_eq (ih (j + 1) _ _ (by omega) (by omega)) (h1 := by rw [n_i1, la_en, if_pos (Or.inr (n_nle (la_o k (la_al dr al nd) (la_en k (la_al dr al nd) dr al sz j) (al (dr j)) + sz (dr j)) (la_en k (la_al dr al nd) dr al sz j) c343))]) (h3 := by rw [la_dp, if_neg (show ¬ dp (dr j) + 1 ≤ la_dp dr dp j by have := n_nle (dp (dr j) + 1) (la_dp dr dp j) c252; omega)]; exact congrArg (mo_W mo_ci am kI kZ _) (bx_uu _ 59 _ _))
            · refine ev_aload_0 307 d_mo_lays_307 ?_
              refine mo_geti 308 57 d_mo_lays_308 lk_167 ?_
              refine ev_goto 311 315 d_mo_lays_311 ?_
              refine ev_topi (nI (la_o k (la_al dr al nd) (la_en k (la_al dr al nd) dr al sz j) (al (dr j)))) (by rw [la_o, if_neg c283, if_pos c304]; show (if k = 9 ∨ k = 10 then nI (la_al dr al nd) else la_a0 k) = _; rw [if_pos (Or.inr c304)]) ?_
              refine mo_astn (j := j) 315 41 59 d_mo_lays_315 (by show j < 6; omega) ?_
              refine ev_aload_0 316 d_mo_lays_316 ?_
              refine mo_getr 317 41 59 d_mo_lays_317 lk_138 ?_
              refine ev_iload_6 320 d_mo_lays_320 ?_
              refine mo_aldn (j := j) 322 41 59 d_mo_lays_322 (by show j < 6; omega) ?_
              refine ev_topi (nI (la_o k (la_al dr al nd) (la_en k (la_al dr al nd) dr al sz j) (al (dr j)))) (by simp only [va_up, upd, if_true]) ?_
              refine ev_aload_0 323 d_mo_lays_323 ?_
              refine mo_getr 324 2 4 d_mo_lays_324 lk_16 ?_
              refine ev_iload_7 327 d_mo_lays_327 ?_
              refine mo_aldn (j := dr j) 329 2 4 d_mo_lays_329 (by exact (hdr j (by omega)).2) ?_
              refine ev_topi (nI (sz (dr j))) hsj.1 ?_
              refine ev_iadd 330 d_mo_lays_330 ?_
              rw [nI_add]
              refine ev_istore_8 331 d_mo_lays_331 ?_
              refine ev_iload_1 333 d_mo_lays_333 ?_
              refine ev_bipush (9) 334 d_mo_lays_334 (by decide) ?_
              refine ev_icmpeq 336 346 d_mo_lays_336 (fun c336 => ?_) (fun c336 => ?_)
              · refine ev_iload_8 346 d_mo_lays_346 ?_
                refine ev_goto 348 353 d_mo_lays_348 ?_
                refine ev_istore_5 353 d_mo_lays_353 ?_
                refine ev_iinc_6 355 d_mo_lays_355 ?_
                refine ev_goto 358 220 d_mo_lays_358 ?_
                exact ev_eq (ih (j + 1) _ _ (by omega) (by omega)) (h1 := by rw [n_i1, la_en, if_pos (Or.inl c336)]) (h3 := by rw [la_dp, if_neg (show ¬ dp (dr j) + 1 ≤ la_dp dr dp j by have := n_nle (dp (dr j) + 1) (la_dp dr dp j) c252; omega)]; exact congrArg (mo_W mo_ci am kI kZ _) (bx_uu _ 59 _ _))
              · refine ev_iload_8 339 d_mo_lays_339 ?_
                refine ev_iload_5 341 d_mo_lays_341 ?_
                refine ev_icmple 343 351 d_mo_lays_343 (fun c343 => ?_) (fun c343 => ?_)
                · refine ev_iload_5 351 d_mo_lays_351 ?_
                  refine ev_istore_5 353 d_mo_lays_353 ?_
                  refine ev_iinc_6 355 d_mo_lays_355 ?_
                  refine ev_goto 358 220 d_mo_lays_358 ?_
                  exact ev_eq (ih (j + 1) _ _ (by omega) (by omega)) (h1 := by rw [n_i1, la_en, if_neg (show ¬ (k = 9 ∨ la_en k (la_al dr al nd) dr al sz j < la_o k (la_al dr al nd) (la_en k (la_al dr al nd) dr al sz j) (al (dr j)) + sz (dr j)) by have := n_le (la_o k (la_al dr al nd) (la_en k (la_al dr al nd) dr al sz j) (al (dr j)) + sz (dr j)) (la_en k (la_al dr al nd) dr al sz j) c343; exact fun z => z.elim c336 (fun z => by omega))]) (h3 := by rw [la_dp, if_neg (show ¬ dp (dr j) + 1 ≤ la_dp dr dp j by have := n_nle (dp (dr j) + 1) (la_dp dr dp j) c252; omega)]; exact congrArg (mo_W mo_ci am kI kZ _) (bx_uu _ 59 _ _))
                · refine ev_iload_8 346 d_mo_lays_346 ?_
                  refine ev_goto 348 353 d_mo_lays_348 ?_
                  refine ev_istore_5 353 d_mo_lays_353 ?_
                  refine ev_iinc_6 355 d_mo_lays_355 ?_
                  refine ev_goto 358 220 d_mo_lays_358 ?_
                  exact ev_eq (ih (j + 1) _ _ (by omega) (by omega)) (h1 := by rw [n_i1, la_en, if_pos (Or.inr (n_nle (la_o k (la_al dr al nd) (la_en k (la_al dr al nd) dr al sz j) (al (dr j)) + sz (dr j)) (la_en k (la_al dr al nd) dr al sz j) c343))]) (h3 := by rw [la_dp, if_neg (show ¬ dp (dr j) + 1 ≤ la_dp dr dp j by have := n_nle (dp (dr j) + 1) (la_dp dr dp j) c252; omega)]; exact congrArg (mo_W mo_ci am kI kZ _) (bx_uu _ 59 _ _))
          · refine ev_iload_5 286 d_mo_lays_286 ?_
            refine ev_aload_0 288 d_mo_lays_288 ?_
            refine mo_getr 289 3 5 d_mo_lays_289 lk_19 ?_
            refine ev_iload_7 292 d_mo_lays_292 ?_
            refine mo_aldn (j := dr j) 294 3 5 d_mo_lays_294 (by exact (hdr j (by omega)).2) ?_
            refine ev_topi (nI (al (dr j))) haj.1 ?_
            refine mo_scalli2 295 d_mo_lays_295 hZ kc_173 (mt_upTo hZ _ _ (fun z => absurd ((n_z (by omega)).mp z) (by omega))) (fun y F9 B9 h => ?_)
            obtain ⟨rfl, e1, e2⟩ := h
            subst F9
            subst B9
            refine ev_topi (nI (mo_ut (la_en k (la_al dr al nd) dr al sz j) (al (dr j)))) (mo_ut_eq (by omega) (by omega) (by omega)) ?_
            refine ev_goto 298 315 d_mo_lays_298 ?_
            refine ev_topi (nI (la_o k (la_al dr al nd) (la_en k (la_al dr al nd) dr al sz j) (al (dr j)))) (by rw [la_o, if_pos c283]) ?_
            refine mo_astn (j := j) 315 41 59 d_mo_lays_315 (by show j < 6; omega) ?_
            refine ev_aload_0 316 d_mo_lays_316 ?_
            refine mo_getr 317 41 59 d_mo_lays_317 lk_138 ?_
            refine ev_iload_6 320 d_mo_lays_320 ?_
            refine mo_aldn (j := j) 322 41 59 d_mo_lays_322 (by show j < 6; omega) ?_
            refine ev_topi (nI (la_o k (la_al dr al nd) (la_en k (la_al dr al nd) dr al sz j) (al (dr j)))) (by simp only [va_up, upd, if_true]) ?_
            refine ev_aload_0 323 d_mo_lays_323 ?_
            refine mo_getr 324 2 4 d_mo_lays_324 lk_16 ?_
            refine ev_iload_7 327 d_mo_lays_327 ?_
            refine mo_aldn (j := dr j) 329 2 4 d_mo_lays_329 (by exact (hdr j (by omega)).2) ?_
            refine ev_topi (nI (sz (dr j))) hsj.1 ?_
            refine ev_iadd 330 d_mo_lays_330 ?_
            rw [nI_add]
            refine ev_istore_8 331 d_mo_lays_331 ?_
            refine ev_iload_1 333 d_mo_lays_333 ?_
            refine ev_bipush (9) 334 d_mo_lays_334 (by decide) ?_
            refine ev_icmpeq 336 346 d_mo_lays_336 (fun c336 => ?_) (fun c336 => ?_)
            · refine ev_iload_8 346 d_mo_lays_346 ?_
              refine ev_goto 348 353 d_mo_lays_348 ?_
              refine ev_istore_5 353 d_mo_lays_353 ?_
              refine ev_iinc_6 355 d_mo_lays_355 ?_
              refine ev_goto 358 220 d_mo_lays_358 ?_
              exact ev_eq (ih (j + 1) _ _ (by omega) (by omega)) (h1 := by rw [n_i1, la_en, if_pos (Or.inl c336)]) (h3 := by rw [la_dp, if_neg (show ¬ dp (dr j) + 1 ≤ la_dp dr dp j by have := n_nle (dp (dr j) + 1) (la_dp dr dp j) c252; omega)]; exact congrArg (mo_W mo_ci am kI kZ _) (bx_uu _ 59 _ _))
            · refine ev_iload_8 339 d_mo_lays_339 ?_
              refine ev_iload_5 341 d_mo_lays_341 ?_
              refine ev_icmple 343 351 d_mo_lays_343 (fun c343 => ?_) (fun c343 => ?_)
              · refine ev_iload_5 351 d_mo_lays_351 ?_
                refine ev_istore_5 353 d_mo_lays_353 ?_
                refine ev_iinc_6 355 d_mo_lays_355 ?_
                refine ev_goto 358 220 d_mo_lays_358 ?_
                exact ev_eq (ih (j + 1) _ _ (by omega) (by omega)) (h1 := by rw [n_i1, la_en, if_neg (show ¬ (k = 9 ∨ la_en k (la_al dr al nd) dr al sz j < la_o k (la_al dr al nd) (la_en k (la_al dr al nd) dr al sz j) (al (dr j)) + sz (dr j)) by have := n_le (la_o k (la_al dr al nd) (la_en k (la_al dr al nd) dr al sz j) (al (dr j)) + sz (dr j)) (la_en k (la_al dr al nd) dr al sz j) c343; exact fun z => z.elim c336 (fun z => by omega))]) (h3 := by rw [la_dp, if_neg (show ¬ dp (dr j) + 1 ≤ la_dp dr dp j by have := n_nle (dp (dr j) + 1) (la_dp dr dp j) c252; omega)]; exact congrArg (mo_W mo_ci am kI kZ _) (bx_uu _ 59 _ _))
              · refine ev_iload_8 346 d_mo_lays_346 ?_
                refine ev_goto 348 353 d_mo_lays_348 ?_
                refine ev_istore_5 353 d_mo_lays_353 ?_
                refine ev_iinc_6 355 d_mo_lays_355 ?_
                refine ev_goto 358 220 d_mo_lays_358 ?_
                exact ev_eq (ih (j + 1) _ _ (by omega) (by omega)) (h1 := by rw [n_i1, la_en, if_pos (Or.inr (n_nle (la_o k (la_al dr al nd) (la_en k (la_al dr al nd) dr al sz j) (al (dr j)) + sz (dr j)) (la_en k (la_al dr al nd) dr al sz j) c343))]) (h3 := by rw [la_dp, if_neg (show ¬ dp (dr j) + 1 ≤ la_dp dr dp j by have := n_nle (dp (dr j) + 1) (la_dp dr dp j) c252; omega)]; exact congrArg (mo_W mo_ci am kI kZ _) (bx_uu _ 59 _ _))
  have M214 : ∀ (mm : Int32), mo_bl mm (k = 9 ∨ k = 10) → la_ft k n (F 10) → ∀ (o5 : Option Value), EV (mo_π l D cl_A kI kZ tl Z) m_lays (ev_E (mo_π l D cl_A kI kZ tl Z) 0 0 (mo_qi am kI kZ (fun x F1 B1 => (¬ la_ft k n (F 10) ∧ x = 0 ∧ F1 = F ∧ B1 = B) ∨ (la_ft k n (F 10) ∧ mo_bl x (¬ 5 < nI (la_dp dr dp nd) ∧ ¬ 96 < (if k = 9 ∨ k = 10 then nI (mo_ut (la_en k (la_al dr al nd) dr al sz nd) (la_al dr al nd)) else mo_psz k)) ∧ F1 = mo_l3 F (nI (la_dp dr dp nd)) (if k = 9 ∨ k = 10 then nI (la_al dr al nd) else la_a0 k) (if k = 9 ∨ k = 10 then nI (mo_ut (la_en k (la_al dr al nd) dr al sz nd) (la_al dr al nd)) else mo_psz k) ∧ B1 = va_up B 59 (la_os k (la_al dr al nd) dr al sz (B 59) nd))))) 0 0 214 [some (.ref (am 60)), some (.int k), some (.int n), some (.int mm), some (.int 1), o5, none, none, none] [] (mo_W mo_ci am kI kZ (mo_l3 F 1 (if k = 9 ∨ k = 10 then nI (la_al dr al nd) else la_a0 k) (mo_psz k)) B) := by
    intro mm hmm hft o5
    refine ev_iconst_0 214 d_mo_lays_214 ?_
    refine ev_istore_5 215 d_mo_lays_215 ?_
    refine ev_iconst_0 217 d_mo_lays_217 ?_
    refine ev_istore_6 218 d_mo_lays_218 ?_
    exact ev_eq (L220 mm hmm hft (nd + 1) 0 none none (by omega) (by omega)) (h3 := congrArg (mo_W mo_ci am kI kZ _) (mo_upid B 59).symm)
  have L157 : ∀ (mm : Int32), mo_bl mm (k = 9 ∨ k = 10) → (k = 9 ∨ k = 10) → la_ft k n (F 10) → ∀ (m j : Nat), nd - j < m → j ≤ nd → EV (mo_π l D cl_A kI kZ tl Z) m_lays (ev_E (mo_π l D cl_A kI kZ tl Z) 0 0 (mo_qi am kI kZ (fun x F1 B1 => (¬ la_ft k n (F 10) ∧ x = 0 ∧ F1 = F ∧ B1 = B) ∨ (la_ft k n (F 10) ∧ mo_bl x (¬ 5 < nI (la_dp dr dp nd) ∧ ¬ 96 < (if k = 9 ∨ k = 10 then nI (mo_ut (la_en k (la_al dr al nd) dr al sz nd) (la_al dr al nd)) else mo_psz k)) ∧ F1 = mo_l3 F (nI (la_dp dr dp nd)) (if k = 9 ∨ k = 10 then nI (la_al dr al nd) else la_a0 k) (if k = 9 ∨ k = 10 then nI (mo_ut (la_en k (la_al dr al nd) dr al sz nd) (la_al dr al nd)) else mo_psz k) ∧ B1 = va_up B 59 (la_os k (la_al dr al nd) dr al sz (B 59) nd))))) 0 0 157 [some (.ref (am 60)), some (.int k), some (.int n), some (.int mm), some (.int 1), some (.int (nI j)), none, none, none] [] (mo_W mo_ci am kI kZ (mo_l3 F 1 (nI (la_al dr al j)) (mo_psz k)) B) := by
    intro mm hmm hmn hft m
    induction m with
    | zero => intro j h; omega
    | succ m ih =>
      intro j hm hj
      have hlj := hal8 j hj
      refine ev_iload_5 157 d_mo_lays_157 ?_
      refine ev_aload_0 159 d_mo_lays_159 ?_
      refine mo_geti 160 10 d_mo_lays_160 lk_154 ?_
      refine ev_icmpge 163 214 d_mo_lays_163 (fun c163 => ?_) (fun c163 => ?_)
      · have h163 := n_le nd j c163 hnd
        have ej : j = nd := by omega
        subst j
        exact ev_eq (M214 mm hmm hft _) (h3 := by rw [if_pos hmn])
      · have h163 := n_nle nd j c163 hnd
        refine ev_aload_0 166 d_mo_lays_166 ?_
        refine ev_aload_0 167 d_mo_lays_167 ?_
        refine mo_getr 168 3 5 d_mo_lays_168 lk_19 ?_
        refine ev_aload_0 171 d_mo_lays_171 ?_
        refine mo_getr 172 8 11 d_mo_lays_172 lk_34 ?_
        refine ev_iload_5 175 d_mo_lays_175 ?_
        refine mo_aldn (j := j) 177 8 11 d_mo_lays_177 (by show j < 6; omega) ?_
        refine ev_topi (nI (dr j)) (by exact (hdr j (by omega)).1) ?_
        refine mo_aldn (j := dr j) 178 3 5 d_mo_lays_178 (by exact (hdr j (by omega)).2) ?_
        have haj := hal j (by omega)
        refine ev_topi (nI (al (dr j))) haj.1 ?_
        refine ev_aload_0 179 d_mo_lays_179 ?_
        refine mo_geti 180 57 d_mo_lays_180 lk_167 ?_
        refine ev_icmple 183 201 d_mo_lays_183 (fun c183 => ?_) (fun c183 => ?_)
        · refine ev_aload_0 201 d_mo_lays_201 ?_
          refine mo_geti 202 57 d_mo_lays_202 lk_167 ?_
          refine mo_puti 205 57 d_mo_lays_205 lp_167 ?_
          refine ev_iinc_5 208 d_mo_lays_208 ?_
          refine ev_goto 211 157 d_mo_lays_211 ?_
          exact ev_eq (ih (j + 1) (by omega) (by omega)) (h1 := by rw [n_i1]) (h3 := by rw [mo_l3b, la_al, if_pos (n_le (al (dr j)) (la_al dr al j) c183)] <;> rfl)
        · refine ev_aload_0 186 d_mo_lays_186 ?_
          refine mo_getr 187 3 5 d_mo_lays_187 lk_19 ?_
          refine ev_aload_0 190 d_mo_lays_190 ?_
          refine mo_getr 191 8 11 d_mo_lays_191 lk_34 ?_
          refine ev_iload_5 194 d_mo_lays_194 ?_
          refine mo_aldn (j := j) 196 8 11 d_mo_lays_196 (by show j < 6; omega) ?_
          refine ev_topi (nI (dr j)) (by exact (hdr j (by omega)).1) ?_
          refine mo_aldn (j := dr j) 197 3 5 d_mo_lays_197 (by exact (hdr j (by omega)).2) ?_
          refine ev_topi (nI (al (dr j))) haj.1 ?_
          refine ev_goto 198 205 d_mo_lays_198 ?_
          refine mo_puti 205 57 d_mo_lays_205 lp_167 ?_
          refine ev_iinc_5 208 d_mo_lays_208 ?_
          refine ev_goto 211 157 d_mo_lays_211 ?_
          exact ev_eq (ih (j + 1) (by omega) (by omega)) (h1 := by rw [n_i1]) (h3 := by rw [mo_l3b, la_al, if_neg (show ¬ al (dr j) ≤ la_al dr al j by have := n_nle (al (dr j)) (la_al dr al j) c183; omega)] <;> rfl)
  have M99 : ∀ (mm v : Int32), mo_bl mm (k = 9 ∨ k = 10) → mo_bl v (la_ft k n (F 10)) → EV (mo_π l D cl_A kI kZ tl Z) m_lays (ev_E (mo_π l D cl_A kI kZ tl Z) 0 0 (mo_qi am kI kZ (fun x F1 B1 => (¬ la_ft k n (F 10) ∧ x = 0 ∧ F1 = F ∧ B1 = B) ∨ (la_ft k n (F 10) ∧ mo_bl x (¬ 5 < nI (la_dp dr dp nd) ∧ ¬ 96 < (if k = 9 ∨ k = 10 then nI (mo_ut (la_en k (la_al dr al nd) dr al sz nd) (la_al dr al nd)) else mo_psz k)) ∧ F1 = mo_l3 F (nI (la_dp dr dp nd)) (if k = 9 ∨ k = 10 then nI (la_al dr al nd) else la_a0 k) (if k = 9 ∨ k = 10 then nI (mo_ut (la_en k (la_al dr al nd) dr al sz nd) (la_al dr al nd)) else mo_psz k) ∧ B1 = va_up B 59 (la_os k (la_al dr al nd) dr al sz (B 59) nd))))) 0 0 99 [some (.ref (am 60)), some (.int k), some (.int n), some (.int mm), none, none, none, none, none] [.int v] (mo_W mo_ci am kI kZ F B) := by
    intro mm v hmm hv
    refine ev_istore_4 99 d_mo_lays_99 ?_
    refine ev_iload_4 101 d_mo_lays_101 ?_
    refine ev_ifne 103 108 d_mo_lays_103 (fun c103 => ?_) (fun c103 => ?_)
    · have hft := mo_b1 hv c103
      obtain rfl : v = 1 := by rcases hv with ⟨z, -⟩ | ⟨z, -⟩
                               · exact z
                               · exact absurd z c103
      refine ev_aload_0 108 d_mo_lays_108 ?_
      refine ev_iconst_1 109 d_mo_lays_109 ?_
      refine mo_puti 110 56 d_mo_lays_110 lp_160 ?_
      refine ev_aload_0 113 d_mo_lays_113 ?_
      refine ev_iload_1 114 d_mo_lays_114 ?_
      refine ev_bipush (6) 115 d_mo_lays_115 (by decide) ?_
      refine ev_icmpeq 117 126 d_mo_lays_117 (fun c117 => ?_) (fun c117 => ?_)
      · refine ev_iconst_2 126 d_mo_lays_126 ?_
        refine ev_goto 127 134 d_mo_lays_127 ?_
        refine ev_topi (la_a0 k) (by rw [la_a0, if_pos (Or.inl c117)]) ?_
        refine mo_puti 134 57 d_mo_lays_134 lp_167 ?_
        refine ev_aload_0 137 d_mo_lays_137 ?_
        refine ev_iload_1 138 d_mo_lays_138 ?_
        refine mo_scalli1 139 d_mo_lays_139 hZ kc_163 (mt_plainSize hZ _) (fun y F9 B9 h => ?_)
        obtain ⟨rfl, e1, e2⟩ := h
        subst F9
        subst B9
        refine mo_puti 142 58 d_mo_lays_142 lp_170 ?_
        refine ev_iload_3 145 d_mo_lays_145 ?_
        refine ev_ifeq 146 214 d_mo_lays_146 (fun c146 => ?_) (fun c146 => ?_)
        · exact ev_eq (M214 mm hmm hft none) (h3 := by rw [if_neg (mo_b0 hmm c146)]; rfl)
        · refine ev_aload_0 149 d_mo_lays_149 ?_
          refine ev_iconst_1 150 d_mo_lays_150 ?_
          refine mo_puti 151 57 d_mo_lays_151 lp_167 ?_
          refine ev_iconst_0 154 d_mo_lays_154 ?_
          refine ev_istore_5 155 d_mo_lays_155 ?_
          rw [show upd (upd (upd (upd F 56 1) 57 (la_a0 k)) 58 (mo_psz k)) 57 1 = mo_l3 F 1 1 (mo_psz k) from mo_l3b F 1 _ _ 1]
          exact L157 mm hmm (mo_b1 hmm c146) hft (nd + 1) 0 (by omega) (by omega)
      · refine ev_iload_1 120 d_mo_lays_120 ?_
        refine ev_bipush (8) 121 d_mo_lays_121 (by decide) ?_
        refine ev_icmpne 123 130 d_mo_lays_123 (fun c123 => ?_) (fun c123 => ?_)
        · refine ev_iload_1 130 d_mo_lays_130 ?_
          refine mo_scalli1 131 d_mo_lays_131 hZ kc_163 (mt_plainSize hZ _) (fun y F9 B9 h => ?_)
          obtain ⟨rfl, e1, e2⟩ := h
          subst F9
          subst B9
          refine ev_topi (la_a0 k) (by rw [la_a0, if_neg (fun z => z.elim c117 c123)]) ?_
          refine mo_puti 134 57 d_mo_lays_134 lp_167 ?_
          refine ev_aload_0 137 d_mo_lays_137 ?_
          refine ev_iload_1 138 d_mo_lays_138 ?_
          refine mo_scalli1 139 d_mo_lays_139 hZ kc_163 (mt_plainSize hZ _) (fun y F9 B9 h => ?_)
          obtain ⟨rfl, e1, e2⟩ := h
          subst F9
          subst B9
          refine mo_puti 142 58 d_mo_lays_142 lp_170 ?_
          refine ev_iload_3 145 d_mo_lays_145 ?_
          refine ev_ifeq 146 214 d_mo_lays_146 (fun c146 => ?_) (fun c146 => ?_)
          · exact ev_eq (M214 mm hmm hft none) (h3 := by rw [if_neg (mo_b0 hmm c146)]; rfl)
          · refine ev_aload_0 149 d_mo_lays_149 ?_
            refine ev_iconst_1 150 d_mo_lays_150 ?_
            refine mo_puti 151 57 d_mo_lays_151 lp_167 ?_
            refine ev_iconst_0 154 d_mo_lays_154 ?_
            refine ev_istore_5 155 d_mo_lays_155 ?_
            rw [show upd (upd (upd (upd F 56 1) 57 (la_a0 k)) 58 (mo_psz k)) 57 1 = mo_l3 F 1 1 (mo_psz k) from mo_l3b F 1 _ _ 1]
            exact L157 mm hmm (mo_b1 hmm c146) hft (nd + 1) 0 (by omega) (by omega)
        · refine ev_iconst_2 126 d_mo_lays_126 ?_
          refine ev_goto 127 134 d_mo_lays_127 ?_
          refine ev_topi (la_a0 k) (by rw [la_a0, if_pos (Or.inr c123)]) ?_
          refine mo_puti 134 57 d_mo_lays_134 lp_167 ?_
          refine ev_aload_0 137 d_mo_lays_137 ?_
          refine ev_iload_1 138 d_mo_lays_138 ?_
          refine mo_scalli1 139 d_mo_lays_139 hZ kc_163 (mt_plainSize hZ _) (fun y F9 B9 h => ?_)
          obtain ⟨rfl, e1, e2⟩ := h
          subst F9
          subst B9
          refine mo_puti 142 58 d_mo_lays_142 lp_170 ?_
          refine ev_iload_3 145 d_mo_lays_145 ?_
          refine ev_ifeq 146 214 d_mo_lays_146 (fun c146 => ?_) (fun c146 => ?_)
          · exact ev_eq (M214 mm hmm hft none) (h3 := by rw [if_neg (mo_b0 hmm c146)]; rfl)
          · refine ev_aload_0 149 d_mo_lays_149 ?_
            refine ev_iconst_1 150 d_mo_lays_150 ?_
            refine mo_puti 151 57 d_mo_lays_151 lp_167 ?_
            refine ev_iconst_0 154 d_mo_lays_154 ?_
            refine ev_istore_5 155 d_mo_lays_155 ?_
            rw [show upd (upd (upd (upd F 56 1) 57 (la_a0 k)) 58 (mo_psz k)) 57 1 = mo_l3 F 1 1 (mo_psz k) from mo_l3b F 1 _ _ 1]
            exact L157 mm hmm (mo_b1 hmm c146) hft (nd + 1) 0 (by omega) (by omega)
    · have hft := mo_b0 hv c103
      refine ev_iconst_0 106 d_mo_lays_106 ?_
      refine ev_zret 107 d_mo_lays_107 rfl ?_ ?_
      · rfl
      exact ⟨_, _, _, rfl, rfl, Or.inl ⟨hft, rfl, rfl, rfl⟩⟩
  refine ev_iload_1 0 d_mo_lays_0 ?_
  refine ev_bipush (9) 1 d_mo_lays_1 (by decide) ?_
  refine ev_icmpeq 3 12 d_mo_lays_3 (fun c3 => ?_) (fun c3 => ?_)
  · refine ev_iconst_1 12 d_mo_lays_12 ?_
    refine ev_goto 13 17 d_mo_lays_13 ?_
    refine ev_istore_3 17 d_mo_lays_17 ?_
    refine ev_iload_1 18 d_mo_lays_18 ?_
    refine ev_iflt 19 98 d_mo_lays_19 (fun c19 => ?_) (fun c19 => ?_)
    · refine ev_iconst_0 98 d_mo_lays_98 ?_
      exact M99 _ _ (Or.inl ⟨rfl, Or.inl c3⟩) (by unfold mo_bl la_ft; grind)
    · refine ev_iload_1 22 d_mo_lays_22 ?_
      refine ev_bipush (12) 23 d_mo_lays_23 (by decide) ?_
      refine ev_icmpgt 25 98 d_mo_lays_25 (fun c25 => ?_) (fun c25 => ?_)
      · refine ev_iconst_0 98 d_mo_lays_98 ?_
        exact M99 _ _ (Or.inl ⟨rfl, Or.inl c3⟩) (by unfold mo_bl la_ft; grind)
      · refine ev_iload_3 28 d_mo_lays_28 ?_
        refine ev_ifeq 29 43 d_mo_lays_29 (fun c29 => ?_) (fun c29 => ?_)
        · exact absurd c29 (by decide)
        · refine ev_aload_0 32 d_mo_lays_32 ?_
          refine mo_geti 33 10 d_mo_lays_33 lk_154 ?_
          refine ev_iconst_1 36 d_mo_lays_36 ?_
          refine ev_icmplt 37 98 d_mo_lays_37 (fun c37 => ?_) (fun c37 => ?_)
          · refine ev_iconst_0 98 d_mo_lays_98 ?_
            exact M99 _ _ (Or.inl ⟨rfl, Or.inl c3⟩) (by unfold mo_bl la_ft; grind)
          · refine ev_goto 40 61 d_mo_lays_40 ?_
            refine ev_iload_1 61 d_mo_lays_61 ?_
            refine ev_bipush (7) 62 d_mo_lays_62 (by decide) ?_
            refine ev_icmpne 64 79 d_mo_lays_64 (fun c64 => ?_) (fun c64 => ?_)
            · refine ev_iload_1 79 d_mo_lays_79 ?_
              refine ev_bipush (11) 80 d_mo_lays_80 (by decide) ?_
              refine ev_icmplt 82 94 d_mo_lays_82 (fun c82 => ?_) (fun c82 => ?_)
              · refine ev_iconst_1 94 d_mo_lays_94 ?_
                refine ev_goto 95 99 d_mo_lays_95 ?_
                exact M99 _ _ (Or.inl ⟨rfl, Or.inl c3⟩) (by unfold mo_bl la_ft; grind)
              · refine ev_iload_2 85 d_mo_lays_85 ?_
                refine ev_iflt 86 98 d_mo_lays_86 (fun c86 => ?_) (fun c86 => ?_)
                · refine ev_iconst_0 98 d_mo_lays_98 ?_
                  exact M99 _ _ (Or.inl ⟨rfl, Or.inl c3⟩) (by unfold mo_bl la_ft; grind)
                · refine ev_iload_2 89 d_mo_lays_89 ?_
                  refine ev_iconst_3 90 d_mo_lays_90 ?_
                  refine ev_icmpgt 91 98 d_mo_lays_91 (fun c91 => ?_) (fun c91 => ?_)
                  · refine ev_iconst_0 98 d_mo_lays_98 ?_
                    exact M99 _ _ (Or.inl ⟨rfl, Or.inl c3⟩) (by unfold mo_bl la_ft; grind)
                  · refine ev_iconst_1 94 d_mo_lays_94 ?_
                    refine ev_goto 95 99 d_mo_lays_95 ?_
                    exact M99 _ _ (Or.inl ⟨rfl, Or.inl c3⟩) (by unfold mo_bl la_ft; grind)
            · refine ev_iload_2 67 d_mo_lays_67 ?_
              refine ev_iconst_1 68 d_mo_lays_68 ?_
              refine ev_icmplt 69 98 d_mo_lays_69 (fun c69 => ?_) (fun c69 => ?_)
              · refine ev_iconst_0 98 d_mo_lays_98 ?_
                exact M99 _ _ (Or.inl ⟨rfl, Or.inl c3⟩) (by unfold mo_bl la_ft; grind)
              · refine ev_iload_2 72 d_mo_lays_72 ?_
                refine ev_sipush (200) 73 d_mo_lays_73 (by decide) ?_
                refine ev_icmpgt 76 98 d_mo_lays_76 (fun c76 => ?_) (fun c76 => ?_)
                · refine ev_iconst_0 98 d_mo_lays_98 ?_
                  exact M99 _ _ (Or.inl ⟨rfl, Or.inl c3⟩) (by unfold mo_bl la_ft; grind)
                · refine ev_iload_1 79 d_mo_lays_79 ?_
                  refine ev_bipush (11) 80 d_mo_lays_80 (by decide) ?_
                  refine ev_icmplt 82 94 d_mo_lays_82 (fun c82 => ?_) (fun c82 => ?_)
                  · refine ev_iconst_1 94 d_mo_lays_94 ?_
                    refine ev_goto 95 99 d_mo_lays_95 ?_
                    exact M99 _ _ (Or.inl ⟨rfl, Or.inl c3⟩) (by unfold mo_bl la_ft; grind)
                  · refine ev_iload_2 85 d_mo_lays_85 ?_
                    refine ev_iflt 86 98 d_mo_lays_86 (fun c86 => ?_) (fun c86 => ?_)
                    · refine ev_iconst_0 98 d_mo_lays_98 ?_
                      exact M99 _ _ (Or.inl ⟨rfl, Or.inl c3⟩) (by unfold mo_bl la_ft; grind)
                    · refine ev_iload_2 89 d_mo_lays_89 ?_
                      refine ev_iconst_3 90 d_mo_lays_90 ?_
                      refine ev_icmpgt 91 98 d_mo_lays_91 (fun c91 => ?_) (fun c91 => ?_)
                      · refine ev_iconst_0 98 d_mo_lays_98 ?_
                        exact M99 _ _ (Or.inl ⟨rfl, Or.inl c3⟩) (by unfold mo_bl la_ft; grind)
                      · refine ev_iconst_1 94 d_mo_lays_94 ?_
                        refine ev_goto 95 99 d_mo_lays_95 ?_
                        exact M99 _ _ (Or.inl ⟨rfl, Or.inl c3⟩) (by unfold mo_bl la_ft; grind)
  · refine ev_iload_1 6 d_mo_lays_6 ?_
    refine ev_bipush (10) 7 d_mo_lays_7 (by decide) ?_
    refine ev_icmpne 9 16 d_mo_lays_9 (fun c9 => ?_) (fun c9 => ?_)
    · refine ev_iconst_0 16 d_mo_lays_16 ?_
      refine ev_istore_3 17 d_mo_lays_17 ?_
      refine ev_iload_1 18 d_mo_lays_18 ?_
      refine ev_iflt 19 98 d_mo_lays_19 (fun c19 => ?_) (fun c19 => ?_)
      · refine ev_iconst_0 98 d_mo_lays_98 ?_
        exact M99 _ _ (Or.inr ⟨rfl, fun z => z.elim c3 c9⟩) (by unfold mo_bl la_ft; grind)
      · refine ev_iload_1 22 d_mo_lays_22 ?_
        refine ev_bipush (12) 23 d_mo_lays_23 (by decide) ?_
        refine ev_icmpgt 25 98 d_mo_lays_25 (fun c25 => ?_) (fun c25 => ?_)
        · refine ev_iconst_0 98 d_mo_lays_98 ?_
          exact M99 _ _ (Or.inr ⟨rfl, fun z => z.elim c3 c9⟩) (by unfold mo_bl la_ft; grind)
        · refine ev_iload_3 28 d_mo_lays_28 ?_
          refine ev_ifeq 29 43 d_mo_lays_29 (fun c29 => ?_) (fun c29 => ?_)
          · refine ev_aload_0 43 d_mo_lays_43 ?_
            refine mo_geti 44 10 d_mo_lays_44 lk_154 ?_
            refine ev_iload_1 47 d_mo_lays_47 ?_
            refine ev_bipush (8) 48 d_mo_lays_48 (by decide) ?_
            refine ev_icmpne 50 57 d_mo_lays_50 (fun c50 => ?_) (fun c50 => ?_)
            · refine ev_iconst_0 57 d_mo_lays_57 ?_
              refine ev_icmpne 58 98 d_mo_lays_58 (fun c58 => ?_) (fun c58 => ?_)
              · refine ev_iconst_0 98 d_mo_lays_98 ?_
                exact M99 _ _ (Or.inr ⟨rfl, fun z => z.elim c3 c9⟩) (by unfold mo_bl la_ft; grind)
              · refine ev_iload_1 61 d_mo_lays_61 ?_
                refine ev_bipush (7) 62 d_mo_lays_62 (by decide) ?_
                refine ev_icmpne 64 79 d_mo_lays_64 (fun c64 => ?_) (fun c64 => ?_)
                · refine ev_iload_1 79 d_mo_lays_79 ?_
                  refine ev_bipush (11) 80 d_mo_lays_80 (by decide) ?_
                  refine ev_icmplt 82 94 d_mo_lays_82 (fun c82 => ?_) (fun c82 => ?_)
                  · refine ev_iconst_1 94 d_mo_lays_94 ?_
                    refine ev_goto 95 99 d_mo_lays_95 ?_
                    exact M99 _ _ (Or.inr ⟨rfl, fun z => z.elim c3 c9⟩) (by unfold mo_bl la_ft; grind)
                  · refine ev_iload_2 85 d_mo_lays_85 ?_
                    refine ev_iflt 86 98 d_mo_lays_86 (fun c86 => ?_) (fun c86 => ?_)
                    · refine ev_iconst_0 98 d_mo_lays_98 ?_
                      exact M99 _ _ (Or.inr ⟨rfl, fun z => z.elim c3 c9⟩) (by unfold mo_bl la_ft; grind)
                    · refine ev_iload_2 89 d_mo_lays_89 ?_
                      refine ev_iconst_3 90 d_mo_lays_90 ?_
                      refine ev_icmpgt 91 98 d_mo_lays_91 (fun c91 => ?_) (fun c91 => ?_)
                      · refine ev_iconst_0 98 d_mo_lays_98 ?_
                        exact M99 _ _ (Or.inr ⟨rfl, fun z => z.elim c3 c9⟩) (by unfold mo_bl la_ft; grind)
                      · refine ev_iconst_1 94 d_mo_lays_94 ?_
                        refine ev_goto 95 99 d_mo_lays_95 ?_
                        exact M99 _ _ (Or.inr ⟨rfl, fun z => z.elim c3 c9⟩) (by unfold mo_bl la_ft; grind)
                · refine ev_iload_2 67 d_mo_lays_67 ?_
                  refine ev_iconst_1 68 d_mo_lays_68 ?_
                  refine ev_icmplt 69 98 d_mo_lays_69 (fun c69 => ?_) (fun c69 => ?_)
                  · refine ev_iconst_0 98 d_mo_lays_98 ?_
                    exact M99 _ _ (Or.inr ⟨rfl, fun z => z.elim c3 c9⟩) (by unfold mo_bl la_ft; grind)
                  · refine ev_iload_2 72 d_mo_lays_72 ?_
                    refine ev_sipush (200) 73 d_mo_lays_73 (by decide) ?_
                    refine ev_icmpgt 76 98 d_mo_lays_76 (fun c76 => ?_) (fun c76 => ?_)
                    · refine ev_iconst_0 98 d_mo_lays_98 ?_
                      exact M99 _ _ (Or.inr ⟨rfl, fun z => z.elim c3 c9⟩) (by unfold mo_bl la_ft; grind)
                    · refine ev_iload_1 79 d_mo_lays_79 ?_
                      refine ev_bipush (11) 80 d_mo_lays_80 (by decide) ?_
                      refine ev_icmplt 82 94 d_mo_lays_82 (fun c82 => ?_) (fun c82 => ?_)
                      · refine ev_iconst_1 94 d_mo_lays_94 ?_
                        refine ev_goto 95 99 d_mo_lays_95 ?_
                        exact M99 _ _ (Or.inr ⟨rfl, fun z => z.elim c3 c9⟩) (by unfold mo_bl la_ft; grind)
                      · refine ev_iload_2 85 d_mo_lays_85 ?_
                        refine ev_iflt 86 98 d_mo_lays_86 (fun c86 => ?_) (fun c86 => ?_)
                        · refine ev_iconst_0 98 d_mo_lays_98 ?_
                          exact M99 _ _ (Or.inr ⟨rfl, fun z => z.elim c3 c9⟩) (by unfold mo_bl la_ft; grind)
                        · refine ev_iload_2 89 d_mo_lays_89 ?_
                          refine ev_iconst_3 90 d_mo_lays_90 ?_
                          refine ev_icmpgt 91 98 d_mo_lays_91 (fun c91 => ?_) (fun c91 => ?_)
                          · refine ev_iconst_0 98 d_mo_lays_98 ?_
                            exact M99 _ _ (Or.inr ⟨rfl, fun z => z.elim c3 c9⟩) (by unfold mo_bl la_ft; grind)
                          · refine ev_iconst_1 94 d_mo_lays_94 ?_
                            refine ev_goto 95 99 d_mo_lays_95 ?_
                            exact M99 _ _ (Or.inr ⟨rfl, fun z => z.elim c3 c9⟩) (by unfold mo_bl la_ft; grind)
            · refine ev_iconst_1 53 d_mo_lays_53 ?_
              refine ev_goto 54 58 d_mo_lays_54 ?_
              refine ev_icmpne 58 98 d_mo_lays_58 (fun c58 => ?_) (fun c58 => ?_)
              · refine ev_iconst_0 98 d_mo_lays_98 ?_
                exact M99 _ _ (Or.inr ⟨rfl, fun z => z.elim c3 c9⟩) (by unfold mo_bl la_ft; grind)
              · refine ev_iload_1 61 d_mo_lays_61 ?_
                refine ev_bipush (7) 62 d_mo_lays_62 (by decide) ?_
                refine ev_icmpne 64 79 d_mo_lays_64 (fun c64 => ?_) (fun c64 => ?_)
                · refine ev_iload_1 79 d_mo_lays_79 ?_
                  refine ev_bipush (11) 80 d_mo_lays_80 (by decide) ?_
                  refine ev_icmplt 82 94 d_mo_lays_82 (fun c82 => ?_) (fun c82 => ?_)
                  · refine ev_iconst_1 94 d_mo_lays_94 ?_
                    refine ev_goto 95 99 d_mo_lays_95 ?_
                    exact M99 _ _ (Or.inr ⟨rfl, fun z => z.elim c3 c9⟩) (by unfold mo_bl la_ft; grind)
                  · refine ev_iload_2 85 d_mo_lays_85 ?_
                    refine ev_iflt 86 98 d_mo_lays_86 (fun c86 => ?_) (fun c86 => ?_)
                    · refine ev_iconst_0 98 d_mo_lays_98 ?_
                      exact M99 _ _ (Or.inr ⟨rfl, fun z => z.elim c3 c9⟩) (by unfold mo_bl la_ft; grind)
                    · refine ev_iload_2 89 d_mo_lays_89 ?_
                      refine ev_iconst_3 90 d_mo_lays_90 ?_
                      refine ev_icmpgt 91 98 d_mo_lays_91 (fun c91 => ?_) (fun c91 => ?_)
                      · refine ev_iconst_0 98 d_mo_lays_98 ?_
                        exact M99 _ _ (Or.inr ⟨rfl, fun z => z.elim c3 c9⟩) (by unfold mo_bl la_ft; grind)
                      · refine ev_iconst_1 94 d_mo_lays_94 ?_
                        refine ev_goto 95 99 d_mo_lays_95 ?_
                        exact M99 _ _ (Or.inr ⟨rfl, fun z => z.elim c3 c9⟩) (by unfold mo_bl la_ft; grind)
                · refine ev_iload_2 67 d_mo_lays_67 ?_
                  refine ev_iconst_1 68 d_mo_lays_68 ?_
                  refine ev_icmplt 69 98 d_mo_lays_69 (fun c69 => ?_) (fun c69 => ?_)
                  · refine ev_iconst_0 98 d_mo_lays_98 ?_
                    exact M99 _ _ (Or.inr ⟨rfl, fun z => z.elim c3 c9⟩) (by unfold mo_bl la_ft; grind)
                  · refine ev_iload_2 72 d_mo_lays_72 ?_
                    refine ev_sipush (200) 73 d_mo_lays_73 (by decide) ?_
                    refine ev_icmpgt 76 98 d_mo_lays_76 (fun c76 => ?_) (fun c76 => ?_)
                    · refine ev_iconst_0 98 d_mo_lays_98 ?_
                      exact M99 _ _ (Or.inr ⟨rfl, fun z => z.elim c3 c9⟩) (by unfold mo_bl la_ft; grind)
                    · refine ev_iload_1 79 d_mo_lays_79 ?_
                      refine ev_bipush (11) 80 d_mo_lays_80 (by decide) ?_
                      refine ev_icmplt 82 94 d_mo_lays_82 (fun c82 => ?_) (fun c82 => ?_)
                      · refine ev_iconst_1 94 d_mo_lays_94 ?_
                        refine ev_goto 95 99 d_mo_lays_95 ?_
                        exact M99 _ _ (Or.inr ⟨rfl, fun z => z.elim c3 c9⟩) (by unfold mo_bl la_ft; grind)
                      · refine ev_iload_2 85 d_mo_lays_85 ?_
                        refine ev_iflt 86 98 d_mo_lays_86 (fun c86 => ?_) (fun c86 => ?_)
                        · refine ev_iconst_0 98 d_mo_lays_98 ?_
                          exact M99 _ _ (Or.inr ⟨rfl, fun z => z.elim c3 c9⟩) (by unfold mo_bl la_ft; grind)
                        · refine ev_iload_2 89 d_mo_lays_89 ?_
                          refine ev_iconst_3 90 d_mo_lays_90 ?_
                          refine ev_icmpgt 91 98 d_mo_lays_91 (fun c91 => ?_) (fun c91 => ?_)
                          · refine ev_iconst_0 98 d_mo_lays_98 ?_
                            exact M99 _ _ (Or.inr ⟨rfl, fun z => z.elim c3 c9⟩) (by unfold mo_bl la_ft; grind)
                          · refine ev_iconst_1 94 d_mo_lays_94 ?_
                            refine ev_goto 95 99 d_mo_lays_95 ?_
                            exact M99 _ _ (Or.inr ⟨rfl, fun z => z.elim c3 c9⟩) (by unfold mo_bl la_ft; grind)
          · exact absurd rfl c29
    · refine ev_iconst_1 12 d_mo_lays_12 ?_
      refine ev_goto 13 17 d_mo_lays_13 ?_
      refine ev_istore_3 17 d_mo_lays_17 ?_
      refine ev_iload_1 18 d_mo_lays_18 ?_
      refine ev_iflt 19 98 d_mo_lays_19 (fun c19 => ?_) (fun c19 => ?_)
      · refine ev_iconst_0 98 d_mo_lays_98 ?_
        exact M99 _ _ (Or.inl ⟨rfl, Or.inr c9⟩) (by unfold mo_bl la_ft; grind)
      · refine ev_iload_1 22 d_mo_lays_22 ?_
        refine ev_bipush (12) 23 d_mo_lays_23 (by decide) ?_
        refine ev_icmpgt 25 98 d_mo_lays_25 (fun c25 => ?_) (fun c25 => ?_)
        · refine ev_iconst_0 98 d_mo_lays_98 ?_
          exact M99 _ _ (Or.inl ⟨rfl, Or.inr c9⟩) (by unfold mo_bl la_ft; grind)
        · refine ev_iload_3 28 d_mo_lays_28 ?_
          refine ev_ifeq 29 43 d_mo_lays_29 (fun c29 => ?_) (fun c29 => ?_)
          · exact absurd c29 (by decide)
          · refine ev_aload_0 32 d_mo_lays_32 ?_
            refine mo_geti 33 10 d_mo_lays_33 lk_154 ?_
            refine ev_iconst_1 36 d_mo_lays_36 ?_
            refine ev_icmplt 37 98 d_mo_lays_37 (fun c37 => ?_) (fun c37 => ?_)
            · refine ev_iconst_0 98 d_mo_lays_98 ?_
              exact M99 _ _ (Or.inl ⟨rfl, Or.inr c9⟩) (by unfold mo_bl la_ft; grind)
            · refine ev_goto 40 61 d_mo_lays_40 ?_
              refine ev_iload_1 61 d_mo_lays_61 ?_
              refine ev_bipush (7) 62 d_mo_lays_62 (by decide) ?_
              refine ev_icmpne 64 79 d_mo_lays_64 (fun c64 => ?_) (fun c64 => ?_)
              · refine ev_iload_1 79 d_mo_lays_79 ?_
                refine ev_bipush (11) 80 d_mo_lays_80 (by decide) ?_
                refine ev_icmplt 82 94 d_mo_lays_82 (fun c82 => ?_) (fun c82 => ?_)
                · refine ev_iconst_1 94 d_mo_lays_94 ?_
                  refine ev_goto 95 99 d_mo_lays_95 ?_
                  exact M99 _ _ (Or.inl ⟨rfl, Or.inr c9⟩) (by unfold mo_bl la_ft; grind)
                · refine ev_iload_2 85 d_mo_lays_85 ?_
                  refine ev_iflt 86 98 d_mo_lays_86 (fun c86 => ?_) (fun c86 => ?_)
                  · refine ev_iconst_0 98 d_mo_lays_98 ?_
                    exact M99 _ _ (Or.inl ⟨rfl, Or.inr c9⟩) (by unfold mo_bl la_ft; grind)
                  · refine ev_iload_2 89 d_mo_lays_89 ?_
                    refine ev_iconst_3 90 d_mo_lays_90 ?_
                    refine ev_icmpgt 91 98 d_mo_lays_91 (fun c91 => ?_) (fun c91 => ?_)
                    · refine ev_iconst_0 98 d_mo_lays_98 ?_
                      exact M99 _ _ (Or.inl ⟨rfl, Or.inr c9⟩) (by unfold mo_bl la_ft; grind)
                    · refine ev_iconst_1 94 d_mo_lays_94 ?_
                      refine ev_goto 95 99 d_mo_lays_95 ?_
                      exact M99 _ _ (Or.inl ⟨rfl, Or.inr c9⟩) (by unfold mo_bl la_ft; grind)
              · refine ev_iload_2 67 d_mo_lays_67 ?_
                refine ev_iconst_1 68 d_mo_lays_68 ?_
                refine ev_icmplt 69 98 d_mo_lays_69 (fun c69 => ?_) (fun c69 => ?_)
                · refine ev_iconst_0 98 d_mo_lays_98 ?_
                  exact M99 _ _ (Or.inl ⟨rfl, Or.inr c9⟩) (by unfold mo_bl la_ft; grind)
                · refine ev_iload_2 72 d_mo_lays_72 ?_
                  refine ev_sipush (200) 73 d_mo_lays_73 (by decide) ?_
                  refine ev_icmpgt 76 98 d_mo_lays_76 (fun c76 => ?_) (fun c76 => ?_)
                  · refine ev_iconst_0 98 d_mo_lays_98 ?_
                    exact M99 _ _ (Or.inl ⟨rfl, Or.inr c9⟩) (by unfold mo_bl la_ft; grind)
                  · refine ev_iload_1 79 d_mo_lays_79 ?_
                    refine ev_bipush (11) 80 d_mo_lays_80 (by decide) ?_
                    refine ev_icmplt 82 94 d_mo_lays_82 (fun c82 => ?_) (fun c82 => ?_)
                    · refine ev_iconst_1 94 d_mo_lays_94 ?_
                      refine ev_goto 95 99 d_mo_lays_95 ?_
                      exact M99 _ _ (Or.inl ⟨rfl, Or.inr c9⟩) (by unfold mo_bl la_ft; grind)
                    · refine ev_iload_2 85 d_mo_lays_85 ?_
                      refine ev_iflt 86 98 d_mo_lays_86 (fun c86 => ?_) (fun c86 => ?_)
                      · refine ev_iconst_0 98 d_mo_lays_98 ?_
                        exact M99 _ _ (Or.inl ⟨rfl, Or.inr c9⟩) (by unfold mo_bl la_ft; grind)
                      · refine ev_iload_2 89 d_mo_lays_89 ?_
                        refine ev_iconst_3 90 d_mo_lays_90 ?_
                        refine ev_icmpgt 91 98 d_mo_lays_91 (fun c91 => ?_) (fun c91 => ?_)
                        · refine ev_iconst_0 98 d_mo_lays_98 ?_
                          exact M99 _ _ (Or.inl ⟨rfl, Or.inr c9⟩) (by unfold mo_bl la_ft; grind)
                        · refine ev_iconst_1 94 d_mo_lays_94 ?_
                          refine ev_goto 95 99 d_mo_lays_95 ?_
                          exact M99 _ _ (Or.inl ⟨rfl, Or.inr c9⟩) (by unfold mo_bl la_ft; grind)
end
section
/-- the parts and offsets of a new type t, j of them -/
def mo_tp (f g : Nat → Int32) (t : Nat) : Nat → Nat → Int32
  | 0 => f
  | j + 1 => upd (mo_tp f g t j) (6 * t + j) (g j)

set_option maxHeartbeats 4000000 in
set_option maxRecDepth 100000 in
theorem mt_type {l : Launch} {D : va_G} {tl : List (ClassId × FieldType)} {Z : (Nat → Prop) → State → Heap → Prop} {kI kZ : ClassId} {am : Nat → Nat} {F : Nat → Int32} {B : Nat → Nat → Int32} (hZ : ev_Zok Z) (k : Int32) (n : Int32) (NT : Nat) (hNT : F 1 = nI NT) (h32 : NT ≤ 32) (nd : Nat) (hnd : F 10 = nI nd) (hn6 : nd ≤ 6) (dr al sz dp : Nat → Nat) (hdr : ∀ j, j < nd → B 11 j = nI (dr j) ∧ dr j < 32) (hal : ∀ j, j < nd → B 5 (dr j) = nI (al (dr j)) ∧ 1 ≤ al (dr j) ∧ al (dr j) ≤ 8) (hsz : ∀ j, j < nd → B 4 (dr j) = nI (sz (dr j)) ∧ sz (dr j) ≤ 96) (hdp : ∀ j, j < nd → B 6 (dr j) = nI (dp (dr j)) ∧ dp (dr j) ≤ 5) : MT (mo_π l D cl_A kI kZ tl Z) m_type 0 0 [.ref (am 60), .int k, .int n] (mo_W mo_ci am kI kZ F B) (mo_qi am kI kZ (fun x F1 B1 => (¬ (la_ft k n (F 10) ∧ ¬ 5 < nI (la_dp dr dp nd) ∧ ¬ 96 < (if k = 9 ∨ k = 10 then nI (mo_ut (la_en k (la_al dr al nd) dr al sz nd) (la_al dr al nd)) else mo_psz k)) ∧ x = 0 ∧ ((F1 = upd F 0 1 ∧ B1 = B) ∨ (F1 = upd (mo_l3 F (nI (la_dp dr dp nd)) (if k = 9 ∨ k = 10 then nI (la_al dr al nd) else la_a0 k) (if k = 9 ∨ k = 10 then nI (mo_ut (la_en k (la_al dr al nd) dr al sz nd) (la_al dr al nd)) else mo_psz k)) 0 1 ∧ B1 = va_up B 59 (la_os k (la_al dr al nd) dr al sz (B 59) nd)))) ∨ ((la_ft k n (F 10) ∧ ¬ 5 < nI (la_dp dr dp nd) ∧ ¬ 96 < (if k = 9 ∨ k = 10 then nI (mo_ut (la_en k (la_al dr al nd) dr al sz nd) (la_al dr al nd)) else mo_psz k)) ∧ NT = 32 ∧ x = 0 ∧ F1 = upd (mo_l3 F (nI (la_dp dr dp nd)) (if k = 9 ∨ k = 10 then nI (la_al dr al nd) else la_a0 k) (if k = 9 ∨ k = 10 then nI (mo_ut (la_en k (la_al dr al nd) dr al sz nd) (la_al dr al nd)) else mo_psz k)) 0 2 ∧ B1 = va_up B 59 (la_os k (la_al dr al nd) dr al sz (B 59) nd)) ∨ ((la_ft k n (F 10) ∧ ¬ 5 < nI (la_dp dr dp nd) ∧ ¬ 96 < (if k = 9 ∨ k = 10 then nI (mo_ut (la_en k (la_al dr al nd) dr al sz nd) (la_al dr al nd)) else mo_psz k)) ∧ NT < 32 ∧ x = nI NT ∧ F1 = upd (upd (upd (mo_l3 F (nI (la_dp dr dp nd)) (if k = 9 ∨ k = 10 then nI (la_al dr al nd) else la_a0 k) (if k = 9 ∨ k = 10 then nI (mo_ut (la_en k (la_al dr al nd) dr al sz nd) (la_al dr al nd)) else mo_psz k)) 0 0) 1 (F 1 + 1)) 10 0 ∧ B1 = (va_up (va_up (va_up (va_up (va_up (va_up (va_up (va_up (va_up B 59 (la_os k (la_al dr al nd) dr al sz (B 59) nd)) 2 (upd (B 2) NT k)) 3 (upd (B 3) NT n)) 4 (upd (B 4) NT (if k = 9 ∨ k = 10 then nI (mo_ut (la_en k (la_al dr al nd) dr al sz nd) (la_al dr al nd)) else mo_psz k))) 5 (upd (B 5) NT (if k = 9 ∨ k = 10 then nI (la_al dr al nd) else la_a0 k))) 6 (upd (B 6) NT (nI (la_dp dr dp nd)))) 7 (upd (B 7) NT (nI nd))) 8 (mo_tp (B 8) (B 11) NT nd)) 9 (mo_tp (B 9) (la_os k (la_al dr al nd) dr al sz (B 59) nd) NT nd))))) := by
  refine mt_of mo_pl rfl (Nat.le_of_ble_eq_true rfl) (ev_eq (lv' := [some (.ref (am 60)), some (.int k), some (.int n), none, none]) ?_)
  have L108 : (la_ft k n (F 10) ∧ ¬ 5 < nI (la_dp dr dp nd) ∧ ¬ 96 < (if k = 9 ∨ k = 10 then nI (mo_ut (la_en k (la_al dr al nd) dr al sz nd) (la_al dr al nd)) else mo_psz k)) → NT < 32 → ∀ m j : Nat, nd - j < m → j ≤ nd → EV (mo_π l D cl_A kI kZ tl Z) m_type (ev_E (mo_π l D cl_A kI kZ tl Z) 0 0 (mo_qi am kI kZ (fun x F1 B1 => (¬ (la_ft k n (F 10) ∧ ¬ 5 < nI (la_dp dr dp nd) ∧ ¬ 96 < (if k = 9 ∨ k = 10 then nI (mo_ut (la_en k (la_al dr al nd) dr al sz nd) (la_al dr al nd)) else mo_psz k)) ∧ x = 0 ∧ ((F1 = upd F 0 1 ∧ B1 = B) ∨ (F1 = upd (mo_l3 F (nI (la_dp dr dp nd)) (if k = 9 ∨ k = 10 then nI (la_al dr al nd) else la_a0 k) (if k = 9 ∨ k = 10 then nI (mo_ut (la_en k (la_al dr al nd) dr al sz nd) (la_al dr al nd)) else mo_psz k)) 0 1 ∧ B1 = va_up B 59 (la_os k (la_al dr al nd) dr al sz (B 59) nd)))) ∨ ((la_ft k n (F 10) ∧ ¬ 5 < nI (la_dp dr dp nd) ∧ ¬ 96 < (if k = 9 ∨ k = 10 then nI (mo_ut (la_en k (la_al dr al nd) dr al sz nd) (la_al dr al nd)) else mo_psz k)) ∧ NT = 32 ∧ x = 0 ∧ F1 = upd (mo_l3 F (nI (la_dp dr dp nd)) (if k = 9 ∨ k = 10 then nI (la_al dr al nd) else la_a0 k) (if k = 9 ∨ k = 10 then nI (mo_ut (la_en k (la_al dr al nd) dr al sz nd) (la_al dr al nd)) else mo_psz k)) 0 2 ∧ B1 = va_up B 59 (la_os k (la_al dr al nd) dr al sz (B 59) nd)) ∨ ((la_ft k n (F 10) ∧ ¬ 5 < nI (la_dp dr dp nd) ∧ ¬ 96 < (if k = 9 ∨ k = 10 then nI (mo_ut (la_en k (la_al dr al nd) dr al sz nd) (la_al dr al nd)) else mo_psz k)) ∧ NT < 32 ∧ x = nI NT ∧ F1 = upd (upd (upd (mo_l3 F (nI (la_dp dr dp nd)) (if k = 9 ∨ k = 10 then nI (la_al dr al nd) else la_a0 k) (if k = 9 ∨ k = 10 then nI (mo_ut (la_en k (la_al dr al nd) dr al sz nd) (la_al dr al nd)) else mo_psz k)) 0 0) 1 (F 1 + 1)) 10 0 ∧ B1 = (va_up (va_up (va_up (va_up (va_up (va_up (va_up (va_up (va_up B 59 (la_os k (la_al dr al nd) dr al sz (B 59) nd)) 2 (upd (B 2) NT k)) 3 (upd (B 3) NT n)) 4 (upd (B 4) NT (if k = 9 ∨ k = 10 then nI (mo_ut (la_en k (la_al dr al nd) dr al sz nd) (la_al dr al nd)) else mo_psz k))) 5 (upd (B 5) NT (if k = 9 ∨ k = 10 then nI (la_al dr al nd) else la_a0 k))) 6 (upd (B 6) NT (nI (la_dp dr dp nd)))) 7 (upd (B 7) NT (nI nd))) 8 (mo_tp (B 8) (B 11) NT nd)) 9 (mo_tp (B 9) (la_os k (la_al dr al nd) dr al sz (B 59) nd) NT nd)))))) 0 0 108 [some (.ref (am 60)), some (.int k), some (.int n), some (.int (nI NT)), some (.int (nI j))] [] (mo_W mo_ci am kI kZ (upd (upd (mo_l3 F (nI (la_dp dr dp nd)) (if k = 9 ∨ k = 10 then nI (la_al dr al nd) else la_a0 k) (if k = 9 ∨ k = 10 then nI (mo_ut (la_en k (la_al dr al nd) dr al sz nd) (la_al dr al nd)) else mo_psz k)) 0 0) 1 (F 1 + 1)) (va_up (va_up (va_up (va_up (va_up (va_up (va_up (va_up (va_up B 59 (la_os k (la_al dr al nd) dr al sz (B 59) nd)) 2 (upd (B 2) NT k)) 3 (upd (B 3) NT n)) 4 (upd (B 4) NT (if k = 9 ∨ k = 10 then nI (mo_ut (la_en k (la_al dr al nd) dr al sz nd) (la_al dr al nd)) else mo_psz k))) 5 (upd (B 5) NT (if k = 9 ∨ k = 10 then nI (la_al dr al nd) else la_a0 k))) 6 (upd (B 6) NT (nI (la_dp dr dp nd)))) 7 (upd (B 7) NT (nI nd))) 8 (mo_tp (B 8) (B 11) NT j)) 9 (mo_tp (B 9) (la_os k (la_al dr al nd) dr al sz (B 59) nd) NT j))) := by
    intro hok hlt m
    induction m with
    | zero => intro j h; omega
    | succ m ih =>
      intro j hm hj
      refine ev_iload_4 108 d_mo_type_108 ?_
      refine ev_aload_0 110 d_mo_type_110 ?_
      refine mo_geti 111 10 d_mo_type_111 lk_154 ?_
      refine ev_icmpge 114 161 d_mo_type_114 (fun c114 => ?_) (fun c114 => ?_)
      · have h114 := n_le nd j c114 hnd
        have ej : j = nd := by omega
        subst j
        refine ev_aload_0 161 d_mo_type_161 ?_
        refine ev_iconst_0 162 d_mo_type_162 ?_
        refine mo_puti 163 10 d_mo_type_163 lp_154 ?_
        refine ev_iload_3 166 d_mo_type_166 ?_
        refine ev_iret 167 d_mo_type_167 rfl ?_
        exact ⟨_, _, _, rfl, rfl, Or.inr (Or.inr ⟨hok, hlt, rfl, rfl, rfl⟩)⟩
      · have h114 := n_nle nd j c114 hnd
        refine ev_aload_0 117 d_mo_type_117 ?_
        refine mo_getr 118 6 8 d_mo_type_118 lk_28 ?_
        refine ev_bipush (6) 121 d_mo_type_121 (by decide) ?_
        refine ev_iload_3 123 d_mo_type_123 ?_
        refine ev_imul 124 d_mo_type_124 ?_
        refine ev_iload_4 125 d_mo_type_125 ?_
        refine ev_iadd 127 d_mo_type_127 ?_
        refine ev_aload_0 128 d_mo_type_128 ?_
        refine mo_getr 129 8 11 d_mo_type_129 lk_34 ?_
        refine ev_iload_4 132 d_mo_type_132 ?_
        refine mo_aldn (j := j) 134 8 11 d_mo_type_134 (by show j < 6; omega) ?_
        refine ev_sndi (nI (6 * NT + j)) (by rw [n_6, pk_mul, nI_add]) ?_
        refine mo_astn (j := 6 * NT + j) 135 6 8 d_mo_type_135 (by show 6 * NT + j < 192; omega) ?_
        refine ev_aload_0 136 d_mo_type_136 ?_
        refine mo_getr 137 7 9 d_mo_type_137 lk_31 ?_
        refine ev_bipush (6) 140 d_mo_type_140 (by decide) ?_
        refine ev_iload_3 142 d_mo_type_142 ?_
        refine ev_imul 143 d_mo_type_143 ?_
        refine ev_iload_4 144 d_mo_type_144 ?_
        refine ev_iadd 146 d_mo_type_146 ?_
        refine ev_aload_0 147 d_mo_type_147 ?_
        refine mo_getr 148 41 59 d_mo_type_148 lk_138 ?_
        refine ev_iload_4 151 d_mo_type_151 ?_
        refine mo_aldn (j := j) 153 41 59 d_mo_type_153 (by show j < 6; omega) ?_
        refine ev_sndi (nI (6 * NT + j)) (by rw [n_6, pk_mul, nI_add]) ?_
        refine mo_astn (j := 6 * NT + j) 154 7 9 d_mo_type_154 (by show 6 * NT + j < 192; omega) ?_
        refine ev_iinc_4 155 d_mo_type_155 ?_
        refine ev_goto 158 108 d_mo_type_158 ?_
        exact ev_eq (ih (j + 1) (by omega) (by omega)) (h1 := by rw [n_i1]) (h3 := congrArg (mo_W mo_ci am kI kZ _) (mo_u4 _ 8 9 _ _ _ _ (by decide)))
  refine ev_aload_0 0 d_mo_type_0 ?_
  refine ev_aload_0 1 d_mo_type_1 ?_
  refine ev_iload_1 2 d_mo_type_2 ?_
  refine ev_iload_2 3 d_mo_type_3 ?_
  refine mo_calli2 4 d_mo_type_4 hZ kc_177 (mt_lays hZ k n nd hnd hn6 dr al sz dp hdr hal hsz hdp) (fun y F1 B1 h => ?_)
  refine ev_ifne 7 14 d_mo_type_7 (fun c7 => ?_) (fun c7 => ?_)
  · have hok : (la_ft k n (F 10) ∧ ¬ 5 < nI (la_dp dr dp nd) ∧ ¬ 96 < (if k = 9 ∨ k = 10 then nI (mo_ut (la_en k (la_al dr al nd) dr al sz nd) (la_al dr al nd)) else mo_psz k)) ∧ F1 = (mo_l3 F (nI (la_dp dr dp nd)) (if k = 9 ∨ k = 10 then nI (la_al dr al nd) else la_a0 k) (if k = 9 ∨ k = 10 then nI (mo_ut (la_en k (la_al dr al nd) dr al sz nd) (la_al dr al nd)) else mo_psz k)) ∧ B1 = va_up B 59 (la_os k (la_al dr al nd) dr al sz (B 59) nd) := by
      rcases h with ⟨-, b, -⟩ | ⟨a, b, e1, e2⟩
      · exact absurd b c7
      · exact ⟨⟨a, mo_b1 b c7⟩, e1, e2⟩
    obtain ⟨hok, e1, e2⟩ := hok
    subst F1
    subst B1
    refine ev_aload_0 14 d_mo_type_14 ?_
    refine mo_geti 15 1 d_mo_type_15 lk_144 ?_
    refine ev_bipush (32) 18 d_mo_type_18 (by decide) ?_
    refine ev_icmpne 20 27 d_mo_type_20 (fun c20 => ?_) (fun c20 => ?_)
    · have hlt : NT < 32 := by have := n_ne NT 32 c20 hNT; omega
      refine ev_iconst_0 27 d_mo_type_27 ?_
      refine mo_calli1 28 d_mo_type_28 hZ kc_157 (mt_refuses hZ _) (fun x F9 B9 h9 => ?_)
      obtain ⟨hx, e1, e2⟩ := h9
      subst F9
      subst B9
      refine ev_ifeq 31 36 d_mo_type_31 (fun c31 => ?_) (fun c31 => ?_)
      · refine ev_aload_0 36 d_mo_type_36 ?_
        refine mo_geti 37 1 d_mo_type_37 lk_144 ?_
        refine ev_topi (nI NT) hNT ?_
        refine ev_istore_3 40 d_mo_type_40 ?_
        refine ev_aload_0 41 d_mo_type_41 ?_
        refine ev_dup_a 42 d_mo_type_42 ?_
        refine mo_geti 43 1 d_mo_type_43 lk_144 ?_
        refine ev_iconst_1 46 d_mo_type_46 ?_
        refine ev_iadd 47 d_mo_type_47 ?_
        refine mo_puti 48 1 d_mo_type_48 lp_144 ?_
        refine ev_aload_0 51 d_mo_type_51 ?_
        refine mo_getr 52 0 2 d_mo_type_52 lk_7 ?_
        refine ev_iload_3 55 d_mo_type_55 ?_
        refine ev_iload_1 56 d_mo_type_56 ?_
        refine mo_astn (j := NT) 57 0 2 d_mo_type_57 (by exact hlt) ?_
        refine ev_aload_0 58 d_mo_type_58 ?_
        refine mo_getr 59 1 3 d_mo_type_59 lk_13 ?_
        refine ev_iload_3 62 d_mo_type_62 ?_
        refine ev_iload_2 63 d_mo_type_63 ?_
        refine mo_astn (j := NT) 64 1 3 d_mo_type_64 (by exact hlt) ?_
        refine ev_aload_0 65 d_mo_type_65 ?_
        refine mo_getr 66 2 4 d_mo_type_66 lk_16 ?_
        refine ev_iload_3 69 d_mo_type_69 ?_
        refine ev_aload_0 70 d_mo_type_70 ?_
        refine mo_geti 71 58 d_mo_type_71 lk_170 ?_
        refine mo_astn (j := NT) 74 2 4 d_mo_type_74 (by exact hlt) ?_
        refine ev_aload_0 75 d_mo_type_75 ?_
        refine mo_getr 76 3 5 d_mo_type_76 lk_19 ?_
        refine ev_iload_3 79 d_mo_type_79 ?_
        refine ev_aload_0 80 d_mo_type_80 ?_
        refine mo_geti 81 57 d_mo_type_81 lk_167 ?_
        refine mo_astn (j := NT) 84 3 5 d_mo_type_84 (by exact hlt) ?_
        refine ev_aload_0 85 d_mo_type_85 ?_
        refine mo_getr 86 4 6 d_mo_type_86 lk_22 ?_
        refine ev_iload_3 89 d_mo_type_89 ?_
        refine ev_aload_0 90 d_mo_type_90 ?_
        refine mo_geti 91 56 d_mo_type_91 lk_160 ?_
        refine mo_astn (j := NT) 94 4 6 d_mo_type_94 (by exact hlt) ?_
        refine ev_aload_0 95 d_mo_type_95 ?_
        refine mo_getr 96 5 7 d_mo_type_96 lk_25 ?_
        refine ev_iload_3 99 d_mo_type_99 ?_
        refine ev_aload_0 100 d_mo_type_100 ?_
        refine mo_geti 101 10 d_mo_type_101 lk_154 ?_
        refine mo_astn (j := NT) 104 5 7 d_mo_type_104 (by exact hlt) ?_
        refine ev_iconst_0 105 d_mo_type_105 ?_
        refine ev_istore_4 106 d_mo_type_106 ?_
        refine ev_eq (L108 hok hlt (nd + 1) 0 (by omega) (by omega)) (h3 := ?_)
        refine congrArg (mo_W mo_ci am kI kZ _) ?_
        rw [show mo_tp (B 8) (B 11) NT 0 = B 8 from rfl, show mo_tp (B 9) (la_os k (la_al dr al nd) dr al sz (B 59) nd) NT 0 = B 9 from rfl]
        rw [show va_up (va_up (va_up (va_up (va_up (va_up (va_up (va_up (va_up B 59 (la_os k (la_al dr al nd) dr al sz (B 59) nd)) 2 (upd (B 2) NT k)) 3 (upd (B 3) NT n)) 4 (upd (B 4) NT (if k = 9 ∨ k = 10 then nI (mo_ut (la_en k (la_al dr al nd) dr al sz nd) (la_al dr al nd)) else mo_psz k))) 5 (upd (B 5) NT (if k = 9 ∨ k = 10 then nI (la_al dr al nd) else la_a0 k))) 6 (upd (B 6) NT (nI (la_dp dr dp nd)))) 7 (upd (B 7) NT (nI nd))) 8 (B 8)) 9 (B 9) = (va_up (va_up (va_up (va_up (va_up (va_up (va_up B 59 (la_os k (la_al dr al nd) dr al sz (B 59) nd)) 2 (upd (B 2) NT k)) 3 (upd (B 3) NT n)) 4 (upd (B 4) NT (if k = 9 ∨ k = 10 then nI (mo_ut (la_en k (la_al dr al nd) dr al sz nd) (la_al dr al nd)) else mo_psz k))) 5 (upd (B 5) NT (if k = 9 ∨ k = 10 then nI (la_al dr al nd) else la_a0 k))) 6 (upd (B 6) NT (nI (la_dp dr dp nd)))) 7 (upd (B 7) NT (nI nd))) from by
          rw [show B 8 = (va_up (va_up (va_up (va_up (va_up (va_up (va_up B 59 (la_os k (la_al dr al nd) dr al sz (B 59) nd)) 2 (upd (B 2) NT k)) 3 (upd (B 3) NT n)) 4 (upd (B 4) NT (if k = 9 ∨ k = 10 then nI (mo_ut (la_en k (la_al dr al nd) dr al sz nd) (la_al dr al nd)) else mo_psz k))) 5 (upd (B 5) NT (if k = 9 ∨ k = 10 then nI (la_al dr al nd) else la_a0 k))) 6 (upd (B 6) NT (nI (la_dp dr dp nd)))) 7 (upd (B 7) NT (nI nd))) 8 from rfl, mo_upid, show B 9 = (va_up (va_up (va_up (va_up (va_up (va_up (va_up B 59 (la_os k (la_al dr al nd) dr al sz (B 59) nd)) 2 (upd (B 2) NT k)) 3 (upd (B 3) NT n)) 4 (upd (B 4) NT (if k = 9 ∨ k = 10 then nI (mo_ut (la_en k (la_al dr al nd) dr al sz nd) (la_al dr al nd)) else mo_psz k))) 5 (upd (B 5) NT (if k = 9 ∨ k = 10 then nI (la_al dr al nd) else la_a0 k))) 6 (upd (B 6) NT (nI (la_dp dr dp nd)))) 7 (upd (B 7) NT (nI nd))) 9 from rfl, mo_upid]]
        rw [← hnd]; rfl
      · exact absurd (mo_r0 hx) c31
    · refine ev_iconst_2 23 d_mo_type_23 ?_
      refine ev_goto 24 28 d_mo_type_24 ?_
      refine mo_calli1 28 d_mo_type_28 hZ kc_157 (mt_refuses hZ _) (fun x F9 B9 h9 => ?_)
      obtain ⟨hx, e1, e2⟩ := h9
      subst F9
      subst B9
      refine ev_ifeq 31 36 d_mo_type_31 (fun c31 => ?_) (fun c31 => ?_)
      · exact absurd c31 (mo_rk hx (by decide))
      · refine ev_iconst_0 34 d_mo_type_34 ?_
        refine ev_iret 35 d_mo_type_35 rfl ?_
        exact ⟨_, _, _, rfl, rfl, Or.inr (Or.inl ⟨hok, n_eq NT 32 c20 hNT, rfl, rfl, rfl⟩)⟩
  · refine ev_iconst_1 10 d_mo_type_10 ?_
    refine ev_goto 11 28 d_mo_type_11 ?_
    refine mo_calli1 28 d_mo_type_28 hZ kc_157 (mt_refuses hZ _) (fun x F9 B9 h9 => ?_)
    obtain ⟨hx, e1, e2⟩ := h9
    subst F9
    subst B9
    refine ev_ifeq 31 36 d_mo_type_31 (fun c31 => ?_) (fun c31 => ?_)
    · exact absurd c31 (mo_rk hx (by decide))
    · refine ev_iconst_0 34 d_mo_type_34 ?_
      refine ev_iret 35 d_mo_type_35 rfl ?_
      rcases h with ⟨a, -, e1, e2⟩ | ⟨a, b, e1, e2⟩
      · subst F1; subst B1
        exact ⟨_, _, _, rfl, rfl, Or.inl ⟨fun z => a z.1, rfl, Or.inl ⟨rfl, rfl⟩⟩⟩
      · subst F1; subst B1
        exact ⟨_, _, _, rfl, rfl, Or.inl ⟨fun z => mo_b0 b c7 z.2, rfl, Or.inr ⟨rfl, rfl⟩⟩⟩
end
section
/-! going through a type: what waits -/
/-- the tables agree but for what waits, and there below h -/
def mo_sw (h : Nat) (B B' : Nat → Nat → Int32) : Prop := (∀ k, k < 37 ∨ 42 < k → B' k = B k) ∧ ∀ j, j < h → B' 37 j = B 37 j ∧ B' 38 j = B 38 j ∧ B' 39 j = B 39 j ∧ B' 40 j = B 40 j ∧ B' 41 j = B 41 j ∧ B' 42 j = B 42 j
theorem mo_sw.rf (h : Nat) (B : Nat → Nat → Int32) : mo_sw h B B := ⟨fun _ _ => rfl, fun _ _ => ⟨rfl, rfl, rfl, rfl, rfl, rfl⟩⟩
theorem mo_sw.tr {h : Nat} {B B' B'' : Nat → Nat → Int32} (a : mo_sw h B B') (b : mo_sw h B' B'') : mo_sw h B B'' := by
  refine ⟨fun k hk => (b.1 k hk).trans (a.1 k hk), fun j hj => ?_⟩
  obtain ⟨a1, a2, a3, a4, a5, a6⟩ := a.2 j hj
  obtain ⟨b1, b2, b3, b4, b5, b6⟩ := b.2 j hj
  exact ⟨b1.trans a1, b2.trans a2, b3.trans a3, b4.trans a4, b5.trans a5, b6.trans a6⟩
theorem mo_sw.le {h h' : Nat} {B B' : Nat → Nat → Int32} (a : mo_sw h B B') (hh : h' ≤ h) : mo_sw h' B B' := ⟨a.1, fun j hj => a.2 j (Nat.lt_of_lt_of_le hj hh)⟩
theorem upd_ne {f : Nat → Int32} {k j : Nat} {x : Int32} (h : j ≠ k) : upd f k x j = f j := if_neg h
theorem upd_eq {f : Nat → Int32} {k : Nat} {x : Int32} : upd f k x k = x := if_pos rfl
theorem upd_upd (f : Nat → Int32) (k : Nat) (x y : Int32) : upd (upd f k x) k y = upd f k y := by
  funext j; simp only [upd]; split <;> rfl
theorem mo_aw_sw (B : Nat → Nat → Int32) (w : Nat) (t u mn pl ab i : Int32) : mo_sw w B (mo_aw B w t u mn pl ab i) := by
  refine ⟨fun k hk => ?_, fun j hj => ?_⟩
  · have h1 : k ≠ 37 := by omega
    have h2 : k ≠ 38 := by omega
    have h3 : k ≠ 39 := by omega
    have h4 : k ≠ 40 := by omega
    have h5 : k ≠ 41 := by omega
    have h6 : k ≠ 42 := by omega
    simp only [mo_aw, va_up, h1, h2, h3, h4, h5, h6, if_false]
  · have e : j ≠ w := by omega
    exact ⟨upd_ne e, upd_ne e, upd_ne e, upd_ne e, upd_ne e, upd_ne e⟩
theorem mo_aw_at (B : Nat → Nat → Int32) (w : Nat) (t u mn pl ab i : Int32) : mo_aw B w t u mn pl ab i 37 w = t ∧ mo_aw B w t u mn pl ab i 38 w = u ∧ mo_aw B w t u mn pl ab i 39 w = mn ∧ mo_aw B w t u mn pl ab i 40 w = pl ∧ mo_aw B w t u mn pl ab i 41 w = ab ∧ mo_aw B w t u mn pl ab i 42 w = i := ⟨upd_eq, upd_eq, upd_eq, upd_eq, upd_eq, upd_eq⟩
theorem n_m1 (x : Int32) : x + Int32.ofInt (-1) = x - 1 := (Int32.sub_eq_add_neg x 1).symm
/-- the types: how many parts, which, how deep -/
def ty_wf (B : Nat → Nat → Int32) (NT : Nat) (ct dp : Nat → Nat) (pt : Nat → Nat → Nat) : Prop :=
  NT ≤ 32 ∧ (∀ t, t < NT → B 7 t = nI (ct t) ∧ ct t ≤ 6 ∧ 1 ≤ dp t ∧ dp t ≤ 5) ∧ ∀ t k, t < NT → k < ct t → B 8 (6 * t + k) = nI (pt t k) ∧ pt t k < NT ∧ dp (pt t k) < dp t
def ty_sh (ct : Nat → Nat) (t u : Nat) : Nat := if ct u ≤ ct t then ct u else ct t
/-- the parts from k on, r of them, gone through one after the other -/
def nb_s (f : Nat → Nat → Nat → Nat ⊕ Nat) (pt : Nat → Nat → Nat) (t u : Nat) : Nat → Nat → Nat → Nat ⊕ Nat
  | 0, _, n => .inr n
  | r + 1, k, n => match f (pt t k) (pt u k) n with
    | .inl m => .inl m
    | .inr n' => nb_s f pt t u r (k + 1) n'
/-- t and its parts gone through against u: the number of the first that doesn't fit, or how many there were, n before -/
def nb_r (B : Nat → Nat → Int32) (ct : Nat → Nat) (pt : Nat → Nat → Nat) : Nat → Nat → Nat → Nat → Nat ⊕ Nat
  | 0, _, _, n => .inr n
  | d + 1, t, u, n => if mo_al B t u then nb_s (nb_r B ct pt d) pt t u (ty_sh ct t u) 0 (n + 1) else .inl (n + 1)
def nb_v (r : Nat ⊕ Nat) : Nat := match r with
  | .inl m => m
  | .inr _ => 0
theorem ty_sh_eq {B : Nat → Nat → Int32} {ct : Nat → Nat} {t u : Nat} (h1 : B 7 t = nI (ct t)) (h2 : B 7 u = nI (ct u)) (h3 : ct t ≤ 6) (h4 : ct u ≤ 6) : (if B 7 u ≤ B 7 t then B 7 u else B 7 t) = nI (ty_sh ct t u) := by
  rw [h1, h2, ty_sh]
  by_cases e : ct u ≤ ct t
  · rw [if_pos e, if_pos ((nI_leI (by omega) (by omega)).mpr e)]
  · rw [if_neg e, if_neg (fun z => e ((nI_leI (by omega) (by omega)).mp z))]

set_option maxHeartbeats 4000000 in
set_option maxRecDepth 100000 in
theorem mt_misfit {l : Launch} {D : va_G} {tl : List (ClassId × FieldType)} {Z : (Nat → Prop) → State → Heap → Prop} {kI kZ : ClassId} {am : Nat → Nat} {F : Nat → Int32} {B : Nat → Nat → Int32} (hZ : ev_Zok Z) (tt : Nat) (uu : Nat) (NT : Nat) (ct dp : Nat → Nat) (pt : Nat → Nat → Nat) (hW : ty_wf B NT ct dp pt) (htt : tt < NT) (huu : uu < NT) : MT (mo_π l D cl_A kI kZ tl Z) m_misfit 0 0 [.ref (am 60), .int (nI tt), .int (nI uu)] (mo_W mo_ci am kI kZ F B) (mo_qi am kI kZ (fun x F1 B1 => x = nI (nb_v (nb_r B ct pt 5 tt uu 0)) ∧ (∃ w, F1 = upd F 36 w) ∧ mo_sw 0 B B1)) := by
  refine mt_of mo_pl rfl (Nat.le_of_ble_eq_true rfl) (ev_eq (lv' := [some (.ref (am 60)), some (.int (nI tt)), some (.int (nI uu)), none, none, none, none]) ?_)
  have FIN : ∀ (n : Nat) (B2 : Nat → Nat → Int32) (o4 o5 o6 : Option Value), mo_sw 0 B B2 → nb_r B ct pt 5 tt uu 0 = .inr n → EV (mo_π l D cl_A kI kZ tl Z) m_misfit (ev_E (mo_π l D cl_A kI kZ tl Z) 0 0 (mo_qi am kI kZ (fun x F1 B1 => x = nI (nb_v (nb_r B ct pt 5 tt uu 0)) ∧ (∃ w, F1 = upd F 36 w) ∧ mo_sw 0 B B1))) 0 0 17 [some (.ref (am 60)), some (.int (nI tt)), some (.int (nI uu)), some (.int (nI (n))), o4, o5, o6] [] (mo_W mo_ci am kI kZ (upd F 36 (nI (0))) B2) := by
    intro n B2 o4 o5 o6 hs hr
    refine ev_aload_0 17 d_mo_misfit_17 ?_
    refine mo_geti 18 36 d_mo_misfit_18 lk_181 ?_
    refine ev_ifle 21 132 d_mo_misfit_21 (fun c21 => ?_) (fun c21 => ?_)
    · refine ev_iconst_0 132 d_mo_misfit_132 ?_
      refine ev_iret 133 d_mo_misfit_133 rfl ?_
      exact ⟨_, _, _, rfl, rfl, by rw [hr]; rfl, ⟨_, rfl⟩, hs⟩
    · exact absurd (show nI 0 ≤ 0 by decide) c21
  have PR : ∀ (d t u n h : Nat) (Bc : Nat → Nat → Int32) (o4 o5 o6 : Option Value), dp t ≤ d → t < NT → u < NT → h + 5 * d ≤ 50 → mo_sw 0 B Bc → Bc 37 h = nI t → Bc 38 h = nI u → (match nb_r B ct pt d t u n with | .inl m => nb_r B ct pt 5 tt uu 0 = .inl m | .inr n2 => ∀ (B2 : Nat → Nat → Int32) (q4 q5 q6 : Option Value), mo_sw h Bc B2 → EV (mo_π l D cl_A kI kZ tl Z) m_misfit (ev_E (mo_π l D cl_A kI kZ tl Z) 0 0 (mo_qi am kI kZ (fun x F1 B1 => x = nI (nb_v (nb_r B ct pt 5 tt uu 0)) ∧ (∃ w, F1 = upd F 36 w) ∧ mo_sw 0 B B1))) 0 0 17 [some (.ref (am 60)), some (.int (nI tt)), some (.int (nI uu)), some (.int (nI (n2))), q4, q5, q6] [] (mo_W mo_ci am kI kZ (upd F 36 (nI (h))) B2)) → EV (mo_π l D cl_A kI kZ tl Z) m_misfit (ev_E (mo_π l D cl_A kI kZ tl Z) 0 0 (mo_qi am kI kZ (fun x F1 B1 => x = nI (nb_v (nb_r B ct pt 5 tt uu 0)) ∧ (∃ w, F1 = upd F 36 w) ∧ mo_sw 0 B B1))) 0 0 17 [some (.ref (am 60)), some (.int (nI tt)), some (.int (nI uu)), some (.int (nI (n))), o4, o5, o6] [] (mo_W mo_ci am kI kZ (upd F 36 (nI (h + 1))) Bc) := by
    intro d
    induction d with
    | zero => intro t u n h Bc o4 o5 o6 hd ht; exact absurd (hW.2.1 t ht).2.2.1 (by omega)
    | succ d ihd =>
      intro t u n h Bc o4 o5 o6 hd ht hu hh hB hT hU hK
      have hc7 : Bc 7 = B 7 := hB.1 7 (by omega)
      have hc8 : Bc 8 = B 8 := hB.1 8 (by omega)
      have hc2 : Bc 2 = B 2 := hB.1 2 (by omega)
      have hc3 : Bc 3 = B 3 := hB.1 3 (by omega)
      have hT32 := hW.1
      obtain ⟨ht1, ht2, ht3, ht4⟩ := hW.2.1 t ht
      obtain ⟨hu1, hu2, hu3, hu4⟩ := hW.2.1 u hu
      have hsh : ty_sh ct t u ≤ ct t ∧ ty_sh ct t u ≤ ct u ∧ ty_sh ct t u ≤ 6 := by unfold ty_sh; split <;> omega
      have SB : ∀ (r k n : Nat) (B1 : Nat → Nat → Int32) (o4 o5 o6 : Option Value), r + k = ty_sh ct t u → mo_sw h Bc B1 → (∀ j, j < r → B1 37 (h + j) = nI (pt t (ty_sh ct t u - 1 - j)) ∧ B1 38 (h + j) = nI (pt u (ty_sh ct t u - 1 - j))) → (match nb_s (nb_r B ct pt d) pt t u r k n with | .inl m => nb_r B ct pt 5 tt uu 0 = .inl m | .inr n2 => ∀ (B2 : Nat → Nat → Int32) (q4 q5 q6 : Option Value), mo_sw h Bc B2 → EV (mo_π l D cl_A kI kZ tl Z) m_misfit (ev_E (mo_π l D cl_A kI kZ tl Z) 0 0 (mo_qi am kI kZ (fun x F1 B1 => x = nI (nb_v (nb_r B ct pt 5 tt uu 0)) ∧ (∃ w, F1 = upd F 36 w) ∧ mo_sw 0 B B1))) 0 0 17 [some (.ref (am 60)), some (.int (nI tt)), some (.int (nI uu)), some (.int (nI (n2))), q4, q5, q6] [] (mo_W mo_ci am kI kZ (upd F 36 (nI (h))) B2)) → EV (mo_π l D cl_A kI kZ tl Z) m_misfit (ev_E (mo_π l D cl_A kI kZ tl Z) 0 0 (mo_qi am kI kZ (fun x F1 B1 => x = nI (nb_v (nb_r B ct pt 5 tt uu 0)) ∧ (∃ w, F1 = upd F 36 w) ∧ mo_sw 0 B B1))) 0 0 17 [some (.ref (am 60)), some (.int (nI tt)), some (.int (nI uu)), some (.int (nI (n))), o4, o5, o6] [] (mo_W mo_ci am kI kZ (upd F 36 (nI (h + r))) B1) := by
        intro r
        induction r with
        | zero =>
          intro k n B1 o4 o5 o6 hr hs hj hk9
          exact hk9 B1 o4 o5 o6 hs
        | succ r ihr =>
          intro k n B1 o4 o5 o6 hr hs hj hk9
          obtain ⟨p1, p2, p3⟩ := hW.2.2 t k ht (by omega)
          obtain ⟨q1, q2, q3⟩ := hW.2.2 u k hu (by omega)
          have hjr := hj r (by omega)
          rw [show ty_sh ct t u - 1 - r = k by omega] at hjr
          refine ihd (pt t k) (pt u k) n (h + r) B1 o4 o5 o6 (by omega) p2 q2 (by omega) (hB.tr (hs.le (Nat.zero_le _))) hjr.1 hjr.2 ?_
          rw [nb_s] at hk9
          cases e : nb_r B ct pt d (pt t k) (pt u k) n with
          | inl m => rw [e] at hk9; exact hk9
          | inr n2 =>
            rw [e] at hk9
            intro B2 q4 q5 q6 hs2
            refine ihr (k + 1) n2 B2 q4 q5 q6 (by omega) (hs.tr (hs2.le (by omega))) (fun j hjj => ?_) hk9
            obtain ⟨a1, a2, -⟩ := hs2.2 (h + j) (by omega)
            rw [a1, a2]
            exact hj j (by omega)
      have PU : mo_al B t u → ∀ (r : Nat) (B1 : Nat → Nat → Int32), r ≤ ty_sh ct t u → mo_sw h Bc B1 → (∀ j, j < ty_sh ct t u - r → B1 37 (h + j) = nI (pt t (ty_sh ct t u - 1 - j)) ∧ B1 38 (h + j) = nI (pt u (ty_sh ct t u - 1 - j))) → EV (mo_π l D cl_A kI kZ tl Z) m_misfit (ev_E (mo_π l D cl_A kI kZ tl Z) 0 0 (mo_qi am kI kZ (fun x F1 B1 => x = nI (nb_v (nb_r B ct pt 5 tt uu 0)) ∧ (∃ w, F1 = upd F 36 w) ∧ mo_sw 0 B B1))) 0 0 84 [some (.ref (am 60)), some (.int (nI tt)), some (.int (nI uu)), some (.int (nI (n + 1))), some (.int (nI t)), some (.int (nI u)), some (.int (nI r - 1))] [] (mo_W mo_ci am kI kZ (upd F 36 (nI (h + (ty_sh ct t u - r)))) B1) := by
        intro hal r
        induction r with
        | zero =>
          intro B1 hr hs hj
          refine ev_iload_6 84 d_mo_misfit_84 ?_
          refine ev_iflt 86 129 d_mo_misfit_86 (fun c86 => ?_) (fun c86 => ?_)
          · refine ev_goto 129 17 d_mo_misfit_129 ?_
            refine SB (ty_sh ct t u) 0 (n + 1) B1 _ _ _ (by omega) hs (fun j hjj => hj j (by omega)) ?_
            rw [nb_r, if_pos hal] at hK
            exact hK
          · exact absurd (by decide) c86
        | succ r ih =>
          intro B1 hr hs hj
          obtain ⟨p1, p2, p3⟩ := hW.2.2 t r ht (by omega)
          obtain ⟨q1, q2, q3⟩ := hW.2.2 u r hu (by omega)
          have h8 : B1 8 = B 8 := (hs.1 8 (by omega)).trans hc8
          rw [nI_pred]
          refine ev_iload_6 84 d_mo_misfit_84 ?_
          refine ev_iflt 86 129 d_mo_misfit_86 (fun c86 => ?_) (fun c86 => ?_)
          · exact absurd c86 (nI_pos (by omega))
          · refine ev_aload_0 89 d_mo_misfit_89 ?_
            refine ev_aload_0 90 d_mo_misfit_90 ?_
            refine mo_getr 91 6 8 d_mo_misfit_91 lk_28 ?_
            refine ev_bipush (6) 94 d_mo_misfit_94 (by decide) ?_
            refine ev_iload_4 96 d_mo_misfit_96 ?_
            refine ev_imul 98 d_mo_misfit_98 ?_
            refine ev_iload_6 99 d_mo_misfit_99 ?_
            refine ev_iadd 101 d_mo_misfit_101 ?_
            refine ev_topi (nI (6 * t + r)) (by rw [n_6, pk_mul, nI_add]) ?_
            refine mo_aldn (j := 6 * t + r) 102 6 8 d_mo_misfit_102 (by show 6 * t + r < 192; omega) ?_
            refine ev_topi (nI (pt t r)) (by rw [h8]; exact p1) ?_
            refine ev_aload_0 103 d_mo_misfit_103 ?_
            refine mo_getr 104 6 8 d_mo_misfit_104 lk_28 ?_
            refine ev_bipush (6) 107 d_mo_misfit_107 (by decide) ?_
            refine ev_iload_5 109 d_mo_misfit_109 ?_
            refine ev_imul 111 d_mo_misfit_111 ?_
            refine ev_iload_6 112 d_mo_misfit_112 ?_
            refine ev_iadd 114 d_mo_misfit_114 ?_
            refine ev_topi (nI (6 * u + r)) (by rw [n_6, pk_mul, nI_add]) ?_
            refine mo_aldn (j := 6 * u + r) 115 6 8 d_mo_misfit_115 (by show 6 * u + r < 192; omega) ?_
            refine ev_topi (nI (pt u r)) (by rw [h8]; exact q1) ?_
            refine ev_iconst_1 116 d_mo_misfit_116 ?_
            refine ev_iconst_0 117 d_mo_misfit_117 ?_
            refine ev_iconst_0 118 d_mo_misfit_118 ?_
            refine ev_iconst_0 119 d_mo_misfit_119 ?_
            refine mo_callv6 120 d_mo_misfit_120 hZ kc_184 (mt_await hZ _ _ _ _ _ _ (by rw [upd_eq]; exact vp_in_nI (by omega) (by decide))) (fun F9 B9 h9 => ?_)
            obtain ⟨e1, e2⟩ := h9
            subst F9
            subst B9
            refine ev_iinc_6 123 d_mo_misfit_123 ?_
            refine ev_goto 126 84 d_mo_misfit_126 ?_
            rw [upd_eq, nI_clamp (by omega)]
            have hat := mo_aw_at B1 (h + (ty_sh ct t u - (r + 1))) (nI (pt t r)) (nI (pt u r)) 1 0 0 0
            have hsw := mo_aw_sw B1 (h + (ty_sh ct t u - (r + 1))) (nI (pt t r)) (nI (pt u r)) 1 0 0 0
            refine ev_eq (ih (mo_aw B1 (h + (ty_sh ct t u - (r + 1))) (nI (pt t r)) (nI (pt u r)) 1 0 0 0) (by omega) (hs.tr (hsw.le (by omega))) (fun j hjj => ?_)) (h1 := by rw [n_m1]) (h3 := by rw [upd_upd, nI_1, show h + (ty_sh ct t u - (r + 1)) + 1 = h + (ty_sh ct t u - r) by omega])
            by_cases e : j = ty_sh ct t u - (r + 1)
            · subst e
              rw [show ty_sh ct t u - 1 - (ty_sh ct t u - (r + 1)) = r by omega]
              exact ⟨hat.1, hat.2.1⟩
            · obtain ⟨a1, a2, -⟩ := hsw.2 (h + j) (by omega)
              rw [a1, a2]
              exact hj j (by omega)
      refine ev_aload_0 17 d_mo_misfit_17 ?_
      refine mo_geti 18 36 d_mo_misfit_18 lk_181 ?_
      refine ev_ifle 21 132 d_mo_misfit_21 (fun c21 => ?_) (fun c21 => ?_)
      · exact absurd (show nI (h + 1) ≤ 0 from c21) (nI_nle (by omega) (by omega))
      · refine ev_aload_0 24 d_mo_misfit_24 ?_
        refine ev_dup_a 25 d_mo_misfit_25 ?_
        refine mo_geti 26 36 d_mo_misfit_26 lk_181 ?_
        refine ev_iconst_1 29 d_mo_misfit_29 ?_
        refine ev_isub 30 d_mo_misfit_30 ?_
        refine mo_puti 31 36 d_mo_misfit_31 lp_181 ?_
        rw [upd_upd, upd_eq, nI_pred]
        refine ev_aload_0 34 d_mo_misfit_34 ?_
        refine mo_getr 35 26 37 d_mo_misfit_35 lk_93 ?_
        refine ev_aload_0 38 d_mo_misfit_38 ?_
        refine mo_geti 39 36 d_mo_misfit_39 lk_181 ?_
        refine ev_topi (nI (h)) (by exact upd_eq) ?_
        refine mo_aldn (j := h) 42 26 37 d_mo_misfit_42 (by show h < 64; omega) ?_
        refine ev_topi (nI t) hT ?_
        refine ev_istore_4 43 d_mo_misfit_43 ?_
        refine ev_aload_0 45 d_mo_misfit_45 ?_
        refine mo_getr 46 27 38 d_mo_misfit_46 lk_96 ?_
        refine ev_aload_0 49 d_mo_misfit_49 ?_
        refine mo_geti 50 36 d_mo_misfit_50 lk_181 ?_
        refine ev_topi (nI (h)) (by exact upd_eq) ?_
        refine mo_aldn (j := h) 53 27 38 d_mo_misfit_53 (by show h < 64; omega) ?_
        refine ev_topi (nI u) hU ?_
        refine ev_istore_5 54 d_mo_misfit_54 ?_
        refine ev_iinc_3 56 d_mo_misfit_56 ?_
        refine ev_aload_0 59 d_mo_misfit_59 ?_
        refine ev_iload_4 60 d_mo_misfit_60 ?_
        refine ev_iload_5 62 d_mo_misfit_62 ?_
        refine mo_calli2 64 d_mo_misfit_64 hZ kc_188 (mt_alike hZ (nI t) (nI u) (vp_in_nI (by omega) (by decide)) (vp_in_nI (by omega) (by decide))) (fun y F9 B9 h9 => ?_)
        obtain ⟨hy, e1, e2⟩ := h9
        subst F9
        subst B9
        replace hy : mo_bl y (mo_al B t u) := by
          rw [nI_clamp (by omega), nI_clamp (by omega)] at hy
          simpa only [mo_al, hc2, hc3, hc7] using hy
        refine ev_ifne 67 72 d_mo_misfit_67 (fun c67 => ?_) (fun c67 => ?_)
        · refine ev_aload_0 72 d_mo_misfit_72 ?_
          refine ev_iload_4 73 d_mo_misfit_73 ?_
          refine ev_iload_5 75 d_mo_misfit_75 ?_
          refine mo_calli2 77 d_mo_misfit_77 hZ kc_191 (mt_shared hZ (nI t) (nI u) (vp_in_nI (by omega) (by decide)) (vp_in_nI (by omega) (by decide))) (fun z F9 B9 h9 => ?_)
          obtain ⟨hz, e1, e2⟩ := h9
          subst F9
          subst B9
          rw [nI_clamp (by omega), nI_clamp (by omega), hc7, ty_sh_eq ht1 hu1 ht2 hu2] at hz
          subst hz
          refine ev_iconst_1 80 d_mo_misfit_80 ?_
          refine ev_isub 81 d_mo_misfit_81 ?_
          refine ev_istore_6 82 d_mo_misfit_82 ?_
          refine ev_eq (PU (mo_b1 hy c67) (ty_sh ct t u) Bc (Nat.le_refl _) (mo_sw.rf _ _) (fun j hj => absurd hj (by omega))) (h1 := by rw [n_i1]) (h3 := by rw [Nat.sub_self, Nat.add_zero])
        · refine ev_iload_3 70 d_mo_misfit_70 ?_
          refine ev_iret 71 d_mo_misfit_71 rfl ?_
          rw [nb_r, if_neg (mo_b0 hy c67)] at hK
          exact ⟨_, _, _, rfl, rfl, by rw [show nb_r B ct pt 5 tt uu 0 = .inl (n + 1) from hK, n_i1]; rfl, ⟨_, rfl⟩, hB⟩
  refine ev_aload_0 0 d_mo_misfit_0 ?_
  refine ev_iconst_0 1 d_mo_misfit_1 ?_
  refine mo_puti 2 36 d_mo_misfit_2 lp_181 ?_
  refine ev_aload_0 5 d_mo_misfit_5 ?_
  refine ev_iload_1 6 d_mo_misfit_6 ?_
  refine ev_iload_2 7 d_mo_misfit_7 ?_
  refine ev_iconst_1 8 d_mo_misfit_8 ?_
  refine ev_iconst_0 9 d_mo_misfit_9 ?_
  refine ev_iconst_0 10 d_mo_misfit_10 ?_
  refine ev_iconst_0 11 d_mo_misfit_11 ?_
  refine mo_callv6 12 d_mo_misfit_12 hZ kc_184 (mt_await hZ _ _ _ _ _ _ (vp_in_nI (n := 0) (by decide) (by decide))) (fun F9 B9 h9 => ?_)
  obtain ⟨e1, e2⟩ := h9
  subst F9
  subst B9
  refine ev_iconst_0 15 d_mo_misfit_15 ?_
  refine ev_istore_3 16 d_mo_misfit_16 ?_
  have hsw := mo_aw_sw B 0 (nI tt) (nI uu) 1 0 0 0
  have hat := mo_aw_at B 0 (nI tt) (nI uu) 1 0 0 0
  have key : ∀ rr, nb_r B ct pt 5 tt uu 0 = rr → (match rr with | .inl m => nb_r B ct pt 5 tt uu 0 = .inl m | .inr n2 => ∀ (B2 : Nat → Nat → Int32) (q4 q5 q6 : Option Value), mo_sw 0 (mo_aw B 0 (nI tt) (nI uu) 1 0 0 0) B2 → EV (mo_π l D cl_A kI kZ tl Z) m_misfit (ev_E (mo_π l D cl_A kI kZ tl Z) 0 0 (mo_qi am kI kZ (fun x F1 B1 => x = nI (nb_v (nb_r B ct pt 5 tt uu 0)) ∧ (∃ w, F1 = upd F 36 w) ∧ mo_sw 0 B B1))) 0 0 17 [some (.ref (am 60)), some (.int (nI tt)), some (.int (nI uu)), some (.int (nI (n2))), q4, q5, q6] [] (mo_W mo_ci am kI kZ (upd F 36 (nI 0)) B2)) := by
    intro rr e
    cases rr with
    | inl m => exact e
    | inr n2 => exact fun B2 q4 q5 q6 hs => FIN n2 B2 q4 q5 q6 (hsw.tr hs) e
  exact ev_eq (PR 5 tt uu 0 0 (mo_aw B 0 (nI tt) (nI uu) 1 0 0 0) none none none (hW.2.1 tt htt).2.2.2 htt huu (by omega) hsw hat.1 hat.2.1 (key _ rfl)) (h3 := by rw [upd_upd]; rfl)
end
section
/-- is there a borrow anywhere in a type -/
def lb_s (f : Nat → Bool) (pt : Nat → Nat → Nat) (t : Nat) : Nat → Nat → Bool
  | 0, _ => false
  | r + 1, k => if f (pt t k) = true then true else lb_s f pt t r (k + 1)
def lb_r (B : Nat → Nat → Int32) (ct : Nat → Nat) (pt : Nat → Nat → Nat) : Nat → Nat → Bool
  | 0, _ => false
  | d + 1, t => if B 2 t = 12 then true else lb_s (lb_r B ct pt d) pt t (ct t) 0

set_option maxHeartbeats 4000000 in
set_option maxRecDepth 100000 in
theorem mt_lends {l : Launch} {D : va_G} {tl : List (ClassId × FieldType)} {Z : (Nat → Prop) → State → Heap → Prop} {kI kZ : ClassId} {am : Nat → Nat} {F : Nat → Int32} {B : Nat → Nat → Int32} (hZ : ev_Zok Z) (tt : Nat) (NT : Nat) (ct dp : Nat → Nat) (pt : Nat → Nat → Nat) (hW : ty_wf B NT ct dp pt) (htt : tt < NT) : MT (mo_π l D cl_A kI kZ tl Z) m_lends 0 0 [.ref (am 60), .int (nI tt)] (mo_W mo_ci am kI kZ F B) (mo_qi am kI kZ (fun x F1 B1 => mo_bl x (lb_r B ct pt 5 tt = true) ∧ (∃ w, F1 = upd F 36 w) ∧ mo_sw 0 B B1)) := by
  refine mt_of mo_pl rfl (Nat.le_of_ble_eq_true rfl) (ev_eq (lv' := [some (.ref (am 60)), some (.int (nI tt)), none, none]) ?_)
  have FIN : ∀ (B2 : Nat → Nat → Int32) (o2 o3 : Option Value), mo_sw 0 B B2 → lb_r B ct pt 5 tt = false → EV (mo_π l D cl_A kI kZ tl Z) m_lends (ev_E (mo_π l D cl_A kI kZ tl Z) 0 0 (mo_qi am kI kZ (fun x F1 B1 => mo_bl x (lb_r B ct pt 5 tt = true) ∧ (∃ w, F1 = upd F 36 w) ∧ mo_sw 0 B B1))) 0 0 15 [some (.ref (am 60)), some (.int (nI tt)), o2, o3] [] (mo_W mo_ci am kI kZ (upd F 36 (nI (0))) B2) := by
    intro B2 o2 o3 hs hr
    refine ev_aload_0 15 d_mo_lends_15 ?_
    refine mo_geti 16 36 d_mo_lends_16 lk_181 ?_
    refine ev_ifle 19 107 d_mo_lends_19 (fun c19 => ?_) (fun c19 => ?_)
    · refine ev_iconst_0 107 d_mo_lends_107 ?_
      refine ev_zret 108 d_mo_lends_108 rfl ?_ ?_
      · rfl
      exact ⟨_, _, _, rfl, rfl, Or.inr ⟨rfl, by rw [hr]; decide⟩, ⟨_, rfl⟩, hs⟩
    · exact absurd (show nI 0 ≤ 0 by decide) c19
  have PR : ∀ (d t h : Nat) (Bc : Nat → Nat → Int32) (o2 o3 : Option Value), dp t ≤ d → t < NT → h + 5 * d ≤ 50 → mo_sw 0 B Bc → Bc 37 h = nI t → (match lb_r B ct pt d t with | true => lb_r B ct pt 5 tt = true | false => ∀ (B2 : Nat → Nat → Int32) (q2 q3 : Option Value), mo_sw h Bc B2 → EV (mo_π l D cl_A kI kZ tl Z) m_lends (ev_E (mo_π l D cl_A kI kZ tl Z) 0 0 (mo_qi am kI kZ (fun x F1 B1 => mo_bl x (lb_r B ct pt 5 tt = true) ∧ (∃ w, F1 = upd F 36 w) ∧ mo_sw 0 B B1))) 0 0 15 [some (.ref (am 60)), some (.int (nI tt)), q2, q3] [] (mo_W mo_ci am kI kZ (upd F 36 (nI (h))) B2)) → EV (mo_π l D cl_A kI kZ tl Z) m_lends (ev_E (mo_π l D cl_A kI kZ tl Z) 0 0 (mo_qi am kI kZ (fun x F1 B1 => mo_bl x (lb_r B ct pt 5 tt = true) ∧ (∃ w, F1 = upd F 36 w) ∧ mo_sw 0 B B1))) 0 0 15 [some (.ref (am 60)), some (.int (nI tt)), o2, o3] [] (mo_W mo_ci am kI kZ (upd F 36 (nI (h + 1))) Bc) := by
    intro d
    induction d with
    | zero => intro t h Bc o2 o3 hd ht; exact absurd (hW.2.1 t ht).2.2.1 (by omega)
    | succ d ihd =>
      intro t h Bc o2 o3 hd ht hh hB hT hK
      have hc7 : Bc 7 = B 7 := hB.1 7 (by omega)
      have hc8 : Bc 8 = B 8 := hB.1 8 (by omega)
      have hc2 : Bc 2 = B 2 := hB.1 2 (by omega)
      have hT32 := hW.1
      obtain ⟨ht1, ht2, ht3, ht4⟩ := hW.2.1 t ht
      have SB : ∀ (r k : Nat) (B1 : Nat → Nat → Int32) (o2 o3 : Option Value), r + k = ct t → mo_sw h Bc B1 → (∀ j, j < r → B1 37 (h + j) = nI (pt t (ct t - 1 - j))) → (match lb_s (lb_r B ct pt d) pt t r k with | true => lb_r B ct pt 5 tt = true | false => ∀ (B2 : Nat → Nat → Int32) (q2 q3 : Option Value), mo_sw h Bc B2 → EV (mo_π l D cl_A kI kZ tl Z) m_lends (ev_E (mo_π l D cl_A kI kZ tl Z) 0 0 (mo_qi am kI kZ (fun x F1 B1 => mo_bl x (lb_r B ct pt 5 tt = true) ∧ (∃ w, F1 = upd F 36 w) ∧ mo_sw 0 B B1))) 0 0 15 [some (.ref (am 60)), some (.int (nI tt)), q2, q3] [] (mo_W mo_ci am kI kZ (upd F 36 (nI (h))) B2)) → EV (mo_π l D cl_A kI kZ tl Z) m_lends (ev_E (mo_π l D cl_A kI kZ tl Z) 0 0 (mo_qi am kI kZ (fun x F1 B1 => mo_bl x (lb_r B ct pt 5 tt = true) ∧ (∃ w, F1 = upd F 36 w) ∧ mo_sw 0 B B1))) 0 0 15 [some (.ref (am 60)), some (.int (nI tt)), o2, o3] [] (mo_W mo_ci am kI kZ (upd F 36 (nI (h + r))) B1) := by
        intro r
        induction r with
        | zero =>
          intro k B1 o2 o3 hr hs hj hk9
          exact hk9 B1 o2 o3 hs
        | succ r ihr =>
          intro k B1 o2 o3 hr hs hj hk9
          obtain ⟨p1, p2, p3⟩ := hW.2.2 t k ht (by omega)
          have hjr := hj r (by omega)
          rw [show ct t - 1 - r = k by omega] at hjr
          refine ihd (pt t k) (h + r) B1 o2 o3 (by omega) p2 (by omega) (hB.tr (hs.le (Nat.zero_le _))) hjr ?_
          rw [lb_s] at hk9
          cases e : lb_r B ct pt d (pt t k) with
          | true => rw [e] at hk9; exact hk9
          | false =>
            rw [e] at hk9
            intro B2 q2 q3 hs2
            refine ihr (k + 1) B2 q2 q3 (by omega) (hs.tr (hs2.le (by omega))) (fun j hjj => ?_) hk9
            obtain ⟨a1, -⟩ := hs2.2 (h + j) (by omega)
            rw [a1]
            exact hj j (by omega)
      have PU : ¬ B 2 t = 12 → ∀ (r : Nat) (B1 : Nat → Nat → Int32), r ≤ ct t → mo_sw h Bc B1 → (∀ j, j < ct t - r → B1 37 (h + j) = nI (pt t (ct t - 1 - j))) → EV (mo_π l D cl_A kI kZ tl Z) m_lends (ev_E (mo_π l D cl_A kI kZ tl Z) 0 0 (mo_qi am kI kZ (fun x F1 B1 => mo_bl x (lb_r B ct pt 5 tt = true) ∧ (∃ w, F1 = upd F 36 w) ∧ mo_sw 0 B B1))) 0 0 64 [some (.ref (am 60)), some (.int (nI tt)), some (.int (nI t)), some (.int (nI r - 1))] [] (mo_W mo_ci am kI kZ (upd F 36 (nI (h + (ct t - r)))) B1) := by
        intro hal r
        induction r with
        | zero =>
          intro B1 hr hs hj
          refine ev_iload_3 64 d_mo_lends_64 ?_
          refine ev_iflt 65 104 d_mo_lends_65 (fun c65 => ?_) (fun c65 => ?_)
          · refine ev_goto 104 15 d_mo_lends_104 ?_
            refine SB (ct t) 0 B1 _ _ (by omega) hs (fun j hjj => hj j (by omega)) ?_
            rw [lb_r, if_neg hal] at hK
            exact hK
          · exact absurd (by decide) c65
        | succ r ih =>
          intro B1 hr hs hj
          obtain ⟨p1, p2, p3⟩ := hW.2.2 t r ht (by omega)
          have h8 : B1 8 = B 8 := (hs.1 8 (by omega)).trans hc8
          rw [nI_pred]
          refine ev_iload_3 64 d_mo_lends_64 ?_
          refine ev_iflt 65 104 d_mo_lends_65 (fun c65 => ?_) (fun c65 => ?_)
          · exact absurd c65 (nI_pos (by omega))
          · refine ev_aload_0 68 d_mo_lends_68 ?_
            refine ev_aload_0 69 d_mo_lends_69 ?_
            refine mo_getr 70 6 8 d_mo_lends_70 lk_28 ?_
            refine ev_bipush (6) 73 d_mo_lends_73 (by decide) ?_
            refine ev_iload_2 75 d_mo_lends_75 ?_
            refine ev_imul 76 d_mo_lends_76 ?_
            refine ev_iload_3 77 d_mo_lends_77 ?_
            refine ev_iadd 78 d_mo_lends_78 ?_
            refine ev_topi (nI (6 * t + r)) (by rw [n_6, pk_mul, nI_add]) ?_
            refine mo_aldn (j := 6 * t + r) 79 6 8 d_mo_lends_79 (by show 6 * t + r < 192; omega) ?_
            refine ev_topi (nI (pt t r)) (by rw [h8]; exact p1) ?_
            refine ev_aload_0 80 d_mo_lends_80 ?_
            refine mo_getr 81 6 8 d_mo_lends_81 lk_28 ?_
            refine ev_bipush (6) 84 d_mo_lends_84 (by decide) ?_
            refine ev_iload_2 86 d_mo_lends_86 ?_
            refine ev_imul 87 d_mo_lends_87 ?_
            refine ev_iload_3 88 d_mo_lends_88 ?_
            refine ev_iadd 89 d_mo_lends_89 ?_
            refine ev_topi (nI (6 * t + r)) (by rw [n_6, pk_mul, nI_add]) ?_
            refine mo_aldn (j := 6 * t + r) 90 6 8 d_mo_lends_90 (by show 6 * t + r < 192; omega) ?_
            refine ev_topi (nI (pt t r)) (by rw [h8]; exact p1) ?_
            refine ev_iconst_1 91 d_mo_lends_91 ?_
            refine ev_iconst_0 92 d_mo_lends_92 ?_
            refine ev_iconst_0 93 d_mo_lends_93 ?_
            refine ev_iconst_0 94 d_mo_lends_94 ?_
            refine mo_callv6 95 d_mo_lends_95 hZ kc_184 (mt_await hZ _ _ _ _ _ _ (by rw [upd_eq]; exact vp_in_nI (by omega) (by decide))) (fun F9 B9 h9 => ?_)
            obtain ⟨e1, e2⟩ := h9
            subst F9
            subst B9
            refine ev_iinc_3 98 d_mo_lends_98 ?_
            refine ev_goto 101 64 d_mo_lends_101 ?_
            rw [upd_eq, nI_clamp (by omega)]
            have hat := mo_aw_at B1 (h + (ct t - (r + 1))) (nI (pt t r)) (nI (pt t r)) 1 0 0 0
            have hsw := mo_aw_sw B1 (h + (ct t - (r + 1))) (nI (pt t r)) (nI (pt t r)) 1 0 0 0
            refine ev_eq (ih (mo_aw B1 (h + (ct t - (r + 1))) (nI (pt t r)) (nI (pt t r)) 1 0 0 0) (by omega) (hs.tr (hsw.le (by omega))) (fun j hjj => ?_)) (h1 := by rw [n_m1]) (h3 := by rw [upd_upd, nI_1, show h + (ct t - (r + 1)) + 1 = h + (ct t - r) by omega])
            by_cases e : j = ct t - (r + 1)
            · subst e
              rw [show ct t - 1 - (ct t - (r + 1)) = r by omega]
              exact hat.1
            · obtain ⟨a1, -⟩ := hsw.2 (h + j) (by omega)
              rw [a1]
              exact hj j (by omega)
      refine ev_aload_0 15 d_mo_lends_15 ?_
      refine mo_geti 16 36 d_mo_lends_16 lk_181 ?_
      refine ev_ifle 19 107 d_mo_lends_19 (fun c19 => ?_) (fun c19 => ?_)
      · exact absurd (show nI (h + 1) ≤ 0 from c19) (nI_nle (by omega) (by omega))
      · refine ev_aload_0 22 d_mo_lends_22 ?_
        refine ev_dup_a 23 d_mo_lends_23 ?_
        refine mo_geti 24 36 d_mo_lends_24 lk_181 ?_
        refine ev_iconst_1 27 d_mo_lends_27 ?_
        refine ev_isub 28 d_mo_lends_28 ?_
        refine mo_puti 29 36 d_mo_lends_29 lp_181 ?_
        rw [upd_upd, upd_eq, nI_pred]
        refine ev_aload_0 32 d_mo_lends_32 ?_
        refine mo_getr 33 26 37 d_mo_lends_33 lk_93 ?_
        refine ev_aload_0 36 d_mo_lends_36 ?_
        refine mo_geti 37 36 d_mo_lends_37 lk_181 ?_
        refine ev_topi (nI (h)) (by exact upd_eq) ?_
        refine mo_aldn (j := h) 40 26 37 d_mo_lends_40 (by show h < 64; omega) ?_
        refine ev_topi (nI t) hT ?_
        refine ev_istore_2 41 d_mo_lends_41 ?_
        refine ev_aload_0 42 d_mo_lends_42 ?_
        refine mo_getr 43 0 2 d_mo_lends_43 lk_7 ?_
        refine ev_iload_2 46 d_mo_lends_46 ?_
        refine mo_aldn (j := t) 47 0 2 d_mo_lends_47 (by show t < 32; omega) ?_
        refine ev_bipush (12) 48 d_mo_lends_48 (by decide) ?_
        refine ev_icmpne 50 55 d_mo_lends_50 (fun c50 => ?_) (fun c50 => ?_)
        · refine ev_aload_0 55 d_mo_lends_55 ?_
          refine mo_getr 56 5 7 d_mo_lends_56 lk_25 ?_
          refine ev_iload_2 59 d_mo_lends_59 ?_
          refine mo_aldn (j := t) 60 5 7 d_mo_lends_60 (by show t < 32; omega) ?_
          refine ev_topi (nI (ct t)) (by rw [hc7]; exact ht1) ?_
          refine ev_iconst_1 61 d_mo_lends_61 ?_
          refine ev_isub 62 d_mo_lends_62 ?_
          refine ev_istore_3 63 d_mo_lends_63 ?_
          refine ev_eq (PU (fun z => c50 (by rw [hc2]; exact z)) (ct t) Bc (Nat.le_refl _) (mo_sw.rf _ _) (fun j hj => absurd hj (by omega))) (h3 := by rw [Nat.sub_self, Nat.add_zero])
        · refine ev_iconst_1 53 d_mo_lends_53 ?_
          refine ev_zret 54 d_mo_lends_54 rfl ?_ ?_
          · rfl
          rw [lb_r, if_pos (by rw [← hc2]; exact c50)] at hK
          exact ⟨_, _, _, rfl, rfl, Or.inl ⟨rfl, hK⟩, ⟨_, rfl⟩, hB⟩
  refine ev_aload_0 0 d_mo_lends_0 ?_
  refine ev_iconst_0 1 d_mo_lends_1 ?_
  refine mo_puti 2 36 d_mo_lends_2 lp_181 ?_
  refine ev_aload_0 5 d_mo_lends_5 ?_
  refine ev_iload_1 6 d_mo_lends_6 ?_
  refine ev_iload_1 7 d_mo_lends_7 ?_
  refine ev_iconst_1 8 d_mo_lends_8 ?_
  refine ev_iconst_0 9 d_mo_lends_9 ?_
  refine ev_iconst_0 10 d_mo_lends_10 ?_
  refine ev_iconst_0 11 d_mo_lends_11 ?_
  refine mo_callv6 12 d_mo_lends_12 hZ kc_184 (mt_await hZ _ _ _ _ _ _ (vp_in_nI (n := 0) (by decide) (by decide))) (fun F9 B9 h9 => ?_)
  obtain ⟨e1, e2⟩ := h9
  subst F9
  subst B9
  have hsw := mo_aw_sw B 0 (nI tt) (nI tt) 1 0 0 0
  have hat := mo_aw_at B 0 (nI tt) (nI tt) 1 0 0 0
  have key : ∀ rr, lb_r B ct pt 5 tt = rr → (match rr with | true => lb_r B ct pt 5 tt = true | false => ∀ (B2 : Nat → Nat → Int32) (q2 q3 : Option Value), mo_sw 0 (mo_aw B 0 (nI tt) (nI tt) 1 0 0 0) B2 → EV (mo_π l D cl_A kI kZ tl Z) m_lends (ev_E (mo_π l D cl_A kI kZ tl Z) 0 0 (mo_qi am kI kZ (fun x F1 B1 => mo_bl x (lb_r B ct pt 5 tt = true) ∧ (∃ w, F1 = upd F 36 w) ∧ mo_sw 0 B B1))) 0 0 15 [some (.ref (am 60)), some (.int (nI tt)), q2, q3] [] (mo_W mo_ci am kI kZ (upd F 36 (nI 0)) B2)) := by
    intro rr e
    cases rr with
    | true => exact e
    | false => exact fun B2 q2 q3 hs => FIN B2 q2 q3 (hsw.tr hs) e
  exact ev_eq (PR 5 tt 0 (mo_aw B 0 (nI tt) (nI tt) 1 0 0 0) none none (hW.2.1 tt htt).2.2.2 htt (by omega) hsw hat.1 (key _ rfl)) (h3 := by rw [upd_upd]; rfl)

theorem mo_u36 (F : Nat → Int32) (w : Int32) {k : Nat} (h : k ≠ 36) : upd F 36 w k = F k := upd_ne h

set_option maxHeartbeats 4000000 in
set_option maxRecDepth 100000 in
theorem mt_fits {l : Launch} {D : va_G} {tl : List (ClassId × FieldType)} {Z : (Nat → Prop) → State → Heap → Prop} {kI kZ : ClassId} {am : Nat → Nat} {F : Nat → Int32} {B : Nat → Nat → Int32} (hZ : ev_Zok Z) (t : Int32) (u : Int32) (NT : Nat) (hNT : F 1 = nI NT) (ct dp : Nat → Nat) (pt : Nat → Nat → Nat) (hW : ty_wf B NT ct dp pt) : MT (mo_π l D cl_A kI kZ tl Z) m_fits 0 0 [.ref (am 60), .int t, .int u] (mo_W mo_ci am kI kZ F B) (mo_qi am kI kZ (fun x F1 B1 => (¬ ((¬ t < 0 ∧ ¬ F 1 ≤ t) ∧ (¬ u < 0 ∧ ¬ F 1 ≤ u)) ∧ x = 0 ∧ F1 = upd F 0 1 ∧ mo_sw 0 B B1) ∨ (∃ tt uu, tt < NT ∧ uu < NT ∧ t = nI tt ∧ u = nI uu ∧ x = nI (nb_v (nb_r B ct pt 5 tt uu 0)) ∧ (∃ w, F1 = upd (upd F 0 0) 36 w) ∧ mo_sw 0 B B1))) := by
  refine mt_of mo_pl rfl (Nat.le_of_ble_eq_true rfl) (ev_eq (lv' := [some (.ref (am 60)), some (.int t), some (.int u)]) ?_)
  refine ev_aload_0 0 d_mo_fits_0 ?_
  refine ev_aload_0 1 d_mo_fits_1 ?_
  refine ev_iload_1 2 d_mo_fits_2 ?_
  refine mo_calli1 3 d_mo_fits_3 hZ kc_150 (mt_isType hZ _) (fun y F1 B1 h => ?_)
  obtain ⟨hy, e1, e2⟩ := h
  subst F1
  subst B1
  refine ev_ifeq 6 21 d_mo_fits_6 (fun c6 => ?_) (fun c6 => ?_)
  · refine ev_iconst_1 21 d_mo_fits_21 ?_
    refine mo_calli1 22 d_mo_fits_22 hZ kc_157 (mt_refuses hZ _) (fun x F1 B1 h => ?_)
    obtain ⟨hx, e1, e2⟩ := h
    subst F1
    subst B1
    refine ev_ifeq 25 32 d_mo_fits_25 (fun c25 => ?_) (fun c25 => ?_)
    · exact absurd c25 (mo_rk hx (by decide))
    · refine ev_iconst_0 28 d_mo_fits_28 ?_
      refine ev_goto 29 38 d_mo_fits_29 ?_
      refine ev_iret 38 d_mo_fits_38 rfl ?_
      exact ⟨_, _, _, rfl, rfl, Or.inl ⟨fun z => mo_b0 hy c6 z.1, rfl, rfl, mo_sw.rf _ _⟩⟩
  · refine ev_aload_0 9 d_mo_fits_9 ?_
    refine ev_iload_2 10 d_mo_fits_10 ?_
    refine mo_calli1 11 d_mo_fits_11 hZ kc_150 (mt_isType hZ _) (fun y2 F1 B1 h => ?_)
    obtain ⟨hy2, e1, e2⟩ := h
    subst F1
    subst B1
    refine ev_ifeq 14 21 d_mo_fits_14 (fun c14 => ?_) (fun c14 => ?_)
    · refine ev_iconst_1 21 d_mo_fits_21 ?_
      refine mo_calli1 22 d_mo_fits_22 hZ kc_157 (mt_refuses hZ _) (fun x F1 B1 h => ?_)
      obtain ⟨hx, e1, e2⟩ := h
      subst F1
      subst B1
      refine ev_ifeq 25 32 d_mo_fits_25 (fun c25 => ?_) (fun c25 => ?_)
      · exact absurd c25 (mo_rk hx (by decide))
      · refine ev_iconst_0 28 d_mo_fits_28 ?_
        refine ev_goto 29 38 d_mo_fits_29 ?_
        refine ev_iret 38 d_mo_fits_38 rfl ?_
        exact ⟨_, _, _, rfl, rfl, Or.inl ⟨fun z => mo_b0 hy2 c14 z.2, rfl, rfl, mo_sw.rf _ _⟩⟩
    · refine ev_iconst_0 17 d_mo_fits_17 ?_
      refine ev_goto 18 22 d_mo_fits_18 ?_
      refine mo_calli1 22 d_mo_fits_22 hZ kc_157 (mt_refuses hZ _) (fun x F1 B1 h => ?_)
      obtain ⟨hx, e1, e2⟩ := h
      subst F1
      subst B1
      refine ev_ifeq 25 32 d_mo_fits_25 (fun c25 => ?_) (fun c25 => ?_)
      · obtain ⟨tt, htt, rfl⟩ := n_typ hNT hW.1 (mo_b1 hy c6)
        obtain ⟨uu, huu, rfl⟩ := n_typ hNT hW.1 (mo_b1 hy2 c14)
        refine ev_aload_0 32 d_mo_fits_32 ?_
        refine ev_iload_1 33 d_mo_fits_33 ?_
        refine ev_iload_2 34 d_mo_fits_34 ?_
        refine mo_calli2 35 d_mo_fits_35 hZ kc_194 (mt_misfit hZ tt uu NT ct dp pt hW htt huu) (fun y9 F9 B9 h9 => ?_)
        obtain ⟨hm, hF, hs⟩ := h9
        refine ev_iret 38 d_mo_fits_38 rfl ?_
        exact ⟨_, _, _, rfl, rfl, Or.inr ⟨tt, uu, htt, huu, rfl, rfl, hm, hF, hs⟩⟩
      · exact absurd (mo_r0 hx) c25

set_option maxHeartbeats 4000000 in
set_option maxRecDepth 100000 in
theorem mt_function {l : Launch} {D : va_G} {tl : List (ClassId × FieldType)} {Z : (Nat → Prop) → State → Heap → Prop} {kI kZ : ClassId} {am : Nat → Nat} {F : Nat → Int32} {B : Nat → Nat → Int32} (hZ : ev_Zok Z) (i : Int32) (a : Int32) (r : Int32) (NI : Nat) (hNI : F 12 = nI NI) (hN6 : NI ≤ 6) (NT : Nat) (hNT : F 1 = nI NT) (ct dp : Nat → Nat) (pt : Nat → Nat → Nat) (hW : ty_wf B NT ct dp pt) (NF : Nat) (hNF : F 25 = nI NF) (hF12 : NF ≤ 12) : MT (mo_π l D cl_A kI kZ tl Z) m_function 0 0 [.ref (am 60), .int i, .int a, .int r] (mo_W mo_ci am kI kZ F B) (mo_qi am kI kZ (fun x F1 B1 => (¬ ((¬ i < 0 ∧ ¬ F 12 ≤ i) ∧ (¬ a < 0 ∧ ¬ F 1 ≤ a) ∧ (¬ r < 0 ∧ ¬ F 1 ≤ r)) ∧ x = 0 ∧ F1 = upd F 0 1 ∧ mo_sw 0 B B1) ∨ (∃ ii aa rr, ii < NI ∧ aa < NT ∧ rr < NT ∧ i = nI ii ∧ a = nI aa ∧ r = nI rr ∧ lb_r B ct pt 5 rr = true ∧ x = 0 ∧ (∃ w, F1 = upd (upd F 36 w) 0 2) ∧ mo_sw 0 B B1) ∨ (∃ ii aa rr, ii < NI ∧ aa < NT ∧ rr < NT ∧ i = nI ii ∧ a = nI aa ∧ r = nI rr ∧ ¬ lb_r B ct pt 5 rr = true ∧ F 25 = 12 ∧ x = 0 ∧ (∃ w, F1 = upd (upd F 36 w) 0 3) ∧ mo_sw 0 B B1) ∨ (∃ ii aa rr, ii < NI ∧ aa < NT ∧ rr < NT ∧ i = nI ii ∧ a = nI aa ∧ r = nI rr ∧ ¬ lb_r B ct pt 5 rr = true ∧ ¬ F 25 = 12 ∧ x = F 25 + 1 - 1 ∧ (∃ w, F1 = upd (upd (upd F 36 w) 0 0) 25 (F 25 + 1)) ∧ ∃ B2, mo_sw 0 B B2 ∧ B1 = va_up (va_up (va_up B2 26 (upd (B2 26) NF i)) 27 (upd (B2 27) NF a)) 28 (upd (B2 28) NF r)))) := by
  refine mt_of mo_pl rfl (Nat.le_of_ble_eq_true rfl) (ev_eq (lv' := [some (.ref (am 60)), some (.int i), some (.int a), some (.int r)]) ?_)
  refine ev_aload_0 0 d_mo_function_0 ?_
  refine ev_aload_0 1 d_mo_function_1 ?_
  refine ev_iload_1 2 d_mo_function_2 ?_
  refine mo_calli1 3 d_mo_function_3 hZ kc_197 (mt_isInstance hZ _) (fun y F1 B1 h => ?_)
  obtain ⟨hy, e1, e2⟩ := h
  subst F1
  subst B1
  refine ev_ifeq 6 25 d_mo_function_6 (fun c6 => ?_) (fun c6 => ?_)
  · refine ev_iconst_1 25 d_mo_function_25 ?_
    refine ev_goto 26 55 d_mo_function_26 ?_
    refine mo_calli1 55 d_mo_function_55 hZ kc_157 (mt_refuses hZ _) (fun x F8 B8 h => ?_)
    obtain ⟨hx, e1, e2⟩ := h
    subst F8
    subst B8
    refine ev_ifeq 58 63 d_mo_function_58 (fun c58 => ?_) (fun c58 => ?_)
    · exact absurd c58 (mo_rk hx (by decide))
    · refine ev_iconst_0 61 d_mo_function_61 ?_
      refine ev_iret 62 d_mo_function_62 rfl ?_
      exact ⟨_, _, _, rfl, rfl, Or.inl ⟨fun z => mo_b0 hy c6 z.1, rfl, rfl, mo_sw.rf _ _⟩⟩
  · refine ev_aload_0 9 d_mo_function_9 ?_
    refine ev_iload_2 10 d_mo_function_10 ?_
    refine mo_calli1 11 d_mo_function_11 hZ kc_150 (mt_isType hZ _) (fun y2 F1 B1 h => ?_)
    obtain ⟨hy2, e1, e2⟩ := h
    subst F1
    subst B1
    refine ev_ifeq 14 25 d_mo_function_14 (fun c14 => ?_) (fun c14 => ?_)
    · refine ev_iconst_1 25 d_mo_function_25 ?_
      refine ev_goto 26 55 d_mo_function_26 ?_
      refine mo_calli1 55 d_mo_function_55 hZ kc_157 (mt_refuses hZ _) (fun x F8 B8 h => ?_)
      obtain ⟨hx, e1, e2⟩ := h
      subst F8
      subst B8
      refine ev_ifeq 58 63 d_mo_function_58 (fun c58 => ?_) (fun c58 => ?_)
      · exact absurd c58 (mo_rk hx (by decide))
      · refine ev_iconst_0 61 d_mo_function_61 ?_
        refine ev_iret 62 d_mo_function_62 rfl ?_
        exact ⟨_, _, _, rfl, rfl, Or.inl ⟨fun z => mo_b0 hy2 c14 z.2.1, rfl, rfl, mo_sw.rf _ _⟩⟩
    · refine ev_aload_0 17 d_mo_function_17 ?_
      refine ev_iload_3 18 d_mo_function_18 ?_
      refine mo_calli1 19 d_mo_function_19 hZ kc_150 (mt_isType hZ _) (fun y3 F1 B1 h => ?_)
      obtain ⟨hy3, e1, e2⟩ := h
      subst F1
      subst B1
      refine ev_ifne 22 29 d_mo_function_22 (fun c22 => ?_) (fun c22 => ?_)
      · obtain ⟨ii, hii, rfl⟩ := n_ins hNI hN6 (mo_b1 hy c6)
        obtain ⟨aa, haa, rfl⟩ := n_typ hNT hW.1 (mo_b1 hy2 c14)
        obtain ⟨rr, hrr, rfl⟩ := n_typ hNT hW.1 (mo_b1 hy3 c22)
        refine ev_aload_0 29 d_mo_function_29 ?_
        refine ev_iload_3 30 d_mo_function_30 ?_
        refine mo_calli1 31 d_mo_function_31 hZ kc_200 (mt_lends hZ rr NT ct dp pt hW hrr) (fun y9 F9 B9 h9 => ?_)
        obtain ⟨hl, ⟨w, e1⟩, hs⟩ := h9
        subst F9
        refine ev_ifeq 34 41 d_mo_function_34 (fun c34 => ?_) (fun c34 => ?_)
        · refine ev_aload_0 41 d_mo_function_41 ?_
          refine mo_geti 42 25 d_mo_function_42 lk_203 ?_
          refine ev_bipush (12) 45 d_mo_function_45 (by decide) ?_
          refine ev_icmpne 47 54 d_mo_function_47 (fun c47 => ?_) (fun c47 => ?_)
          · replace c47 : ¬ F 25 = 12 := c47
            have hlt : NF < 12 := by have := n_ne NF 12 c47 hNF; omega
            refine ev_iconst_0 54 d_mo_function_54 ?_
            refine mo_calli1 55 d_mo_function_55 hZ kc_157 (mt_refuses hZ _) (fun x F8 B8 h => ?_)
            obtain ⟨hx, e1, e2⟩ := h
            subst F8
            subst B8
            refine ev_ifeq 58 63 d_mo_function_58 (fun c58 => ?_) (fun c58 => ?_)
            · refine ev_aload_0 63 d_mo_function_63 ?_
              refine mo_getr 64 20 26 d_mo_function_64 lk_71 ?_
              refine ev_aload_0 67 d_mo_function_67 ?_
              refine mo_geti 68 25 d_mo_function_68 lk_203 ?_
              refine ev_iload_1 71 d_mo_function_71 ?_
              refine ev_sndi (nI (NF)) (by exact hNF) ?_
              refine mo_astn (j := NF) 72 20 26 d_mo_function_72 (by exact hlt) ?_
              refine ev_aload_0 73 d_mo_function_73 ?_
              refine mo_getr 74 21 27 d_mo_function_74 lk_74 ?_
              refine ev_aload_0 77 d_mo_function_77 ?_
              refine mo_geti 78 25 d_mo_function_78 lk_203 ?_
              refine ev_iload_2 81 d_mo_function_81 ?_
              refine ev_sndi (nI (NF)) (by exact hNF) ?_
              refine mo_astn (j := NF) 82 21 27 d_mo_function_82 (by exact hlt) ?_
              refine ev_aload_0 83 d_mo_function_83 ?_
              refine mo_getr 84 22 28 d_mo_function_84 lk_77 ?_
              refine ev_aload_0 87 d_mo_function_87 ?_
              refine mo_geti 88 25 d_mo_function_88 lk_203 ?_
              refine ev_iload_3 91 d_mo_function_91 ?_
              refine ev_sndi (nI (NF)) (by exact hNF) ?_
              refine mo_astn (j := NF) 92 22 28 d_mo_function_92 (by exact hlt) ?_
              refine ev_aload_0 93 d_mo_function_93 ?_
              refine ev_dup_a 94 d_mo_function_94 ?_
              refine mo_geti 95 25 d_mo_function_95 lk_203 ?_
              refine ev_iconst_1 98 d_mo_function_98 ?_
              refine ev_iadd 99 d_mo_function_99 ?_
              refine mo_puti 100 25 d_mo_function_100 lp_203 ?_
              refine ev_aload_0 103 d_mo_function_103 ?_
              refine mo_geti 104 25 d_mo_function_104 lk_203 ?_
              refine ev_iconst_1 107 d_mo_function_107 ?_
              refine ev_isub 108 d_mo_function_108 ?_
              refine ev_iret 109 d_mo_function_109 rfl ?_
              exact ⟨_, _, _, rfl, rfl, Or.inr (Or.inr (Or.inr ⟨ii, aa, rr, hii, haa, hrr, rfl, rfl, rfl, mo_b0 hl c34, c47, rfl, ⟨w, rfl⟩, ⟨_, hs, rfl⟩⟩))⟩
            · exact absurd (mo_r0 hx) c58
          · replace c47 : F 25 = 12 := c47
            refine ev_iconst_3 50 d_mo_function_50 ?_
            refine ev_goto 51 55 d_mo_function_51 ?_
            refine mo_calli1 55 d_mo_function_55 hZ kc_157 (mt_refuses hZ _) (fun x F8 B8 h => ?_)
            obtain ⟨hx, e1, e2⟩ := h
            subst F8
            subst B8
            refine ev_ifeq 58 63 d_mo_function_58 (fun c58 => ?_) (fun c58 => ?_)
            · exact absurd c58 (mo_rk hx (by decide))
            · refine ev_iconst_0 61 d_mo_function_61 ?_
              refine ev_iret 62 d_mo_function_62 rfl ?_
              exact ⟨_, _, _, rfl, rfl, Or.inr (Or.inr (Or.inl ⟨ii, aa, rr, hii, haa, hrr, rfl, rfl, rfl, mo_b0 hl c34, c47, rfl, ⟨w, rfl⟩, hs⟩))⟩
        · refine ev_iconst_2 37 d_mo_function_37 ?_
          refine ev_goto 38 55 d_mo_function_38 ?_
          refine mo_calli1 55 d_mo_function_55 hZ kc_157 (mt_refuses hZ _) (fun x F8 B8 h => ?_)
          obtain ⟨hx, e1, e2⟩ := h
          subst F8
          subst B8
          refine ev_ifeq 58 63 d_mo_function_58 (fun c58 => ?_) (fun c58 => ?_)
          · exact absurd c58 (mo_rk hx (by decide))
          · refine ev_iconst_0 61 d_mo_function_61 ?_
            refine ev_iret 62 d_mo_function_62 rfl ?_
            exact ⟨_, _, _, rfl, rfl, Or.inr (Or.inl ⟨ii, aa, rr, hii, haa, hrr, rfl, rfl, rfl, mo_b1 hl c34, rfl, ⟨w, rfl⟩, hs⟩)⟩
      · refine ev_iconst_1 25 d_mo_function_25 ?_
        refine ev_goto 26 55 d_mo_function_26 ?_
        refine mo_calli1 55 d_mo_function_55 hZ kc_157 (mt_refuses hZ _) (fun x F8 B8 h => ?_)
        obtain ⟨hx, e1, e2⟩ := h
        subst F8
        subst B8
        refine ev_ifeq 58 63 d_mo_function_58 (fun c58 => ?_) (fun c58 => ?_)
        · exact absurd c58 (mo_rk hx (by decide))
        · refine ev_iconst_0 61 d_mo_function_61 ?_
          refine ev_iret 62 d_mo_function_62 rfl ?_
          exact ⟨_, _, _, rfl, rfl, Or.inl ⟨fun z => mo_b0 hy3 c22 z.2.2, rfl, rfl, mo_sw.rf _ _⟩⟩
end
section
theorem d_mo_readItem_0 : decode c_mo_readItem 0 = .ok (.aload_n 0, 1) := by decide +kernel
theorem d_mo_readItem_1 : decode c_mo_readItem 1 = .ok (.getfield 237, 3) := by decide +kernel
theorem d_mo_readItem_4 : decode c_mo_readItem 4 = .ok (.sipush 200, 3) := by decide +kernel
theorem d_mo_readItem_7 : decode c_mo_readItem 7 = .ok (.if_icmp .ne 12, 3) := by decide +kernel
theorem d_mo_readItem_10 : decode c_mo_readItem 10 = .ok (.aload_n 0, 1) := by decide +kernel
theorem d_mo_readItem_11 : decode c_mo_readItem 11 = .ok (.bipush 10, 2) := by decide +kernel
theorem d_mo_readItem_13 : decode c_mo_readItem 13 = .ok (.iload 4, 2) := by decide +kernel
theorem d_mo_readItem_15 : decode c_mo_readItem 15 = .ok (.invokevirtual 230, 3) := by decide +kernel
theorem d_mo_readItem_18 : decode c_mo_readItem 18 = .ok (.return_, 1) := by decide +kernel
theorem d_mo_readItem_19 : decode c_mo_readItem 19 = .ok (.iload 4, 2) := by decide +kernel
theorem d_mo_readItem_21 : decode c_mo_readItem 21 = .ok (.aload_n 0, 1) := by decide +kernel
theorem d_mo_readItem_22 : decode c_mo_readItem 22 = .ok (.getfield 19, 3) := by decide +kernel
theorem d_mo_readItem_25 : decode c_mo_readItem 25 = .ok (.iload_n 2, 1) := by decide +kernel
theorem d_mo_readItem_26 : decode c_mo_readItem 26 = .ok (.iaload, 1) := by decide +kernel
theorem d_mo_readItem_27 : decode c_mo_readItem 27 = .ok (.irem, 1) := by decide +kernel
theorem d_mo_readItem_28 : decode c_mo_readItem 28 = .ok (.ifCond .eq 11, 3) := by decide +kernel
theorem d_mo_readItem_31 : decode c_mo_readItem 31 = .ok (.aload_n 0, 1) := by decide +kernel
theorem d_mo_readItem_32 : decode c_mo_readItem 32 = .ok (.iconst 5, 1) := by decide +kernel
theorem d_mo_readItem_33 : decode c_mo_readItem 33 = .ok (.iload 4, 2) := by decide +kernel
theorem d_mo_readItem_35 : decode c_mo_readItem 35 = .ok (.invokevirtual 230, 3) := by decide +kernel
theorem d_mo_readItem_38 : decode c_mo_readItem 38 = .ok (.return_, 1) := by decide +kernel
theorem d_mo_readItem_39 : decode c_mo_readItem 39 = .ok (.aload_n 0, 1) := by decide +kernel
theorem d_mo_readItem_40 : decode c_mo_readItem 40 = .ok (.getfield 237, 3) := by decide +kernel
theorem d_mo_readItem_43 : decode c_mo_readItem 43 = .ok (.istore 7, 2) := by decide +kernel
theorem d_mo_readItem_45 : decode c_mo_readItem 45 = .ok (.aload_n 0, 1) := by decide +kernel
theorem d_mo_readItem_46 : decode c_mo_readItem 46 = .ok (.dup, 1) := by decide +kernel
theorem d_mo_readItem_47 : decode c_mo_readItem 47 = .ok (.getfield 237, 3) := by decide +kernel
theorem d_mo_readItem_50 : decode c_mo_readItem 50 = .ok (.iconst 1, 1) := by decide +kernel
theorem d_mo_readItem_51 : decode c_mo_readItem 51 = .ok (.iadd, 1) := by decide +kernel
theorem d_mo_readItem_52 : decode c_mo_readItem 52 = .ok (.putfield 237, 3) := by decide +kernel
theorem d_mo_readItem_55 : decode c_mo_readItem 55 = .ok (.aload_n 0, 1) := by decide +kernel
theorem d_mo_readItem_56 : decode c_mo_readItem 56 = .ok (.getfield 111, 3) := by decide +kernel
theorem d_mo_readItem_59 : decode c_mo_readItem 59 = .ok (.iload 7, 2) := by decide +kernel
theorem d_mo_readItem_61 : decode c_mo_readItem 61 = .ok (.iload_n 3, 1) := by decide +kernel
theorem d_mo_readItem_62 : decode c_mo_readItem 62 = .ok (.iastore, 1) := by decide +kernel
theorem d_mo_readItem_63 : decode c_mo_readItem 63 = .ok (.aload_n 0, 1) := by decide +kernel
theorem d_mo_readItem_64 : decode c_mo_readItem 64 = .ok (.getfield 114, 3) := by decide +kernel
theorem d_mo_readItem_67 : decode c_mo_readItem 67 = .ok (.iload 7, 2) := by decide +kernel
theorem d_mo_readItem_69 : decode c_mo_readItem 69 = .ok (.iload 4, 2) := by decide +kernel
theorem d_mo_readItem_71 : decode c_mo_readItem 71 = .ok (.iastore, 1) := by decide +kernel
theorem d_mo_readItem_72 : decode c_mo_readItem 72 = .ok (.aload_n 0, 1) := by decide +kernel
theorem d_mo_readItem_73 : decode c_mo_readItem 73 = .ok (.getfield 117, 3) := by decide +kernel
theorem d_mo_readItem_76 : decode c_mo_readItem 76 = .ok (.iload 7, 2) := by decide +kernel
theorem d_mo_readItem_78 : decode c_mo_readItem 78 = .ok (.iload 5, 2) := by decide +kernel
theorem d_mo_readItem_80 : decode c_mo_readItem 80 = .ok (.iastore, 1) := by decide +kernel
theorem d_mo_readItem_81 : decode c_mo_readItem 81 = .ok (.aload_n 0, 1) := by decide +kernel
theorem d_mo_readItem_82 : decode c_mo_readItem 82 = .ok (.getfield 120, 3) := by decide +kernel
theorem d_mo_readItem_85 : decode c_mo_readItem 85 = .ok (.iload 7, 2) := by decide +kernel
theorem d_mo_readItem_87 : decode c_mo_readItem 87 = .ok (.iload 6, 2) := by decide +kernel
theorem d_mo_readItem_89 : decode c_mo_readItem 89 = .ok (.iastore, 1) := by decide +kernel
theorem d_mo_readItem_90 : decode c_mo_readItem 90 = .ok (.aload_n 0, 1) := by decide +kernel
theorem d_mo_readItem_91 : decode c_mo_readItem 91 = .ok (.getfield 7, 3) := by decide +kernel
theorem d_mo_readItem_94 : decode c_mo_readItem 94 = .ok (.iload_n 2, 1) := by decide +kernel
theorem d_mo_readItem_95 : decode c_mo_readItem 95 = .ok (.iaload, 1) := by decide +kernel
theorem d_mo_readItem_96 : decode c_mo_readItem 96 = .ok (.istore 8, 2) := by decide +kernel
theorem d_mo_readItem_98 : decode c_mo_readItem 98 = .ok (.iload 8, 2) := by decide +kernel
theorem d_mo_readItem_100 : decode c_mo_readItem 100 = .ok (.bipush 6, 2) := by decide +kernel
theorem d_mo_readItem_102 : decode c_mo_readItem 102 = .ok (.if_icmp .eq 10, 3) := by decide +kernel
theorem d_mo_readItem_105 : decode c_mo_readItem 105 = .ok (.iload 8, 2) := by decide +kernel
theorem d_mo_readItem_107 : decode c_mo_readItem 107 = .ok (.bipush 8, 2) := by decide +kernel
theorem d_mo_readItem_109 : decode c_mo_readItem 109 = .ok (.if_icmp .ne 130, 3) := by decide +kernel
theorem d_mo_readItem_112 : decode c_mo_readItem 112 = .ok (.aload_n 0, 1) := by decide +kernel
theorem d_mo_readItem_113 : decode c_mo_readItem 113 = .ok (.getfield 123, 3) := by decide +kernel
theorem d_mo_readItem_116 : decode c_mo_readItem 116 = .ok (.iload 7, 2) := by decide +kernel
theorem d_mo_readItem_118 : decode c_mo_readItem 118 = .ok (.aload_n 0, 1) := by decide +kernel
theorem d_mo_readItem_119 : decode c_mo_readItem 119 = .ok (.iload_n 1, 1) := by decide +kernel
theorem d_mo_readItem_120 : decode c_mo_readItem 120 = .ok (.iload 4, 2) := by decide +kernel
theorem d_mo_readItem_122 : decode c_mo_readItem 122 = .ok (.iconst 2, 1) := by decide +kernel
theorem d_mo_readItem_123 : decode c_mo_readItem 123 = .ok (.invokevirtual 240, 3) := by decide +kernel
theorem d_mo_readItem_126 : decode c_mo_readItem 126 = .ok (.iastore, 1) := by decide +kernel
theorem d_mo_readItem_127 : decode c_mo_readItem 127 = .ok (.aload_n 0, 1) := by decide +kernel
theorem d_mo_readItem_128 : decode c_mo_readItem 128 = .ok (.getfield 126, 3) := by decide +kernel
theorem d_mo_readItem_131 : decode c_mo_readItem 131 = .ok (.iload 7, 2) := by decide +kernel
theorem d_mo_readItem_133 : decode c_mo_readItem 133 = .ok (.aload_n 0, 1) := by decide +kernel
theorem d_mo_readItem_134 : decode c_mo_readItem 134 = .ok (.iload_n 1, 1) := by decide +kernel
theorem d_mo_readItem_135 : decode c_mo_readItem 135 = .ok (.iload 4, 2) := by decide +kernel
theorem d_mo_readItem_137 : decode c_mo_readItem 137 = .ok (.iconst 2, 1) := by decide +kernel
theorem d_mo_readItem_138 : decode c_mo_readItem 138 = .ok (.iadd, 1) := by decide +kernel
theorem d_mo_readItem_139 : decode c_mo_readItem 139 = .ok (.iconst 2, 1) := by decide +kernel
theorem d_mo_readItem_140 : decode c_mo_readItem 140 = .ok (.invokevirtual 240, 3) := by decide +kernel
theorem d_mo_readItem_143 : decode c_mo_readItem 143 = .ok (.iastore, 1) := by decide +kernel
theorem d_mo_readItem_144 : decode c_mo_readItem 144 = .ok (.aload_n 0, 1) := by decide +kernel
theorem d_mo_readItem_145 : decode c_mo_readItem 145 = .ok (.getfield 224, 3) := by decide +kernel
theorem d_mo_readItem_148 : decode c_mo_readItem 148 = .ok (.ifCond .ne 32, 3) := by decide +kernel
theorem d_mo_readItem_151 : decode c_mo_readItem 151 = .ok (.iload 8, 2) := by decide +kernel
theorem d_mo_readItem_153 : decode c_mo_readItem 153 = .ok (.bipush 6, 2) := by decide +kernel
theorem d_mo_readItem_155 : decode c_mo_readItem 155 = .ok (.if_icmp .ne 25, 3) := by decide +kernel
theorem d_mo_readItem_158 : decode c_mo_readItem 158 = .ok (.aload_n 0, 1) := by decide +kernel
theorem d_mo_readItem_159 : decode c_mo_readItem 159 = .ok (.iload_n 1, 1) := by decide +kernel
theorem d_mo_readItem_160 : decode c_mo_readItem 160 = .ok (.aload_n 0, 1) := by decide +kernel
theorem d_mo_readItem_161 : decode c_mo_readItem 161 = .ok (.getfield 123, 3) := by decide +kernel
theorem d_mo_readItem_164 : decode c_mo_readItem 164 = .ok (.iload 7, 2) := by decide +kernel
theorem d_mo_readItem_166 : decode c_mo_readItem 166 = .ok (.iaload, 1) := by decide +kernel
theorem d_mo_readItem_167 : decode c_mo_readItem 167 = .ok (.aload_n 0, 1) := by decide +kernel
theorem d_mo_readItem_168 : decode c_mo_readItem 168 = .ok (.getfield 126, 3) := by decide +kernel
theorem d_mo_readItem_171 : decode c_mo_readItem 171 = .ok (.iload 7, 2) := by decide +kernel
theorem d_mo_readItem_173 : decode c_mo_readItem 173 = .ok (.iaload, 1) := by decide +kernel
theorem d_mo_readItem_174 : decode c_mo_readItem 174 = .ok (.invokevirtual 244, 3) := by decide +kernel
theorem d_mo_readItem_177 : decode c_mo_readItem 177 = .ok (.goto 281, 3) := by decide +kernel
theorem d_mo_readItem_180 : decode c_mo_readItem 180 = .ok (.aload_n 0, 1) := by decide +kernel
theorem d_mo_readItem_181 : decode c_mo_readItem 181 = .ok (.getfield 224, 3) := by decide +kernel
theorem d_mo_readItem_184 : decode c_mo_readItem 184 = .ok (.ifCond .ne 274, 3) := by decide +kernel
theorem d_mo_readItem_187 : decode c_mo_readItem 187 = .ok (.aload_n 0, 1) := by decide +kernel
theorem d_mo_readItem_188 : decode c_mo_readItem 188 = .ok (.getfield 126, 3) := by decide +kernel
theorem d_mo_readItem_191 : decode c_mo_readItem 191 = .ok (.iload 7, 2) := by decide +kernel
theorem d_mo_readItem_193 : decode c_mo_readItem 193 = .ok (.iaload, 1) := by decide +kernel
theorem d_mo_readItem_194 : decode c_mo_readItem 194 = .ok (.ifCond .le 264, 3) := by decide +kernel
theorem d_mo_readItem_197 : decode c_mo_readItem 197 = .ok (.aload_n 0, 1) := by decide +kernel
theorem d_mo_readItem_198 : decode c_mo_readItem 198 = .ok (.aload_n 0, 1) := by decide +kernel
theorem d_mo_readItem_199 : decode c_mo_readItem 199 = .ok (.getfield 28, 3) := by decide +kernel
theorem d_mo_readItem_202 : decode c_mo_readItem 202 = .ok (.bipush 6, 2) := by decide +kernel
theorem d_mo_readItem_204 : decode c_mo_readItem 204 = .ok (.iload_n 2, 1) := by decide +kernel
theorem d_mo_readItem_205 : decode c_mo_readItem 205 = .ok (.imul, 1) := by decide +kernel
theorem d_mo_readItem_206 : decode c_mo_readItem 206 = .ok (.iaload, 1) := by decide +kernel
theorem d_mo_readItem_207 : decode c_mo_readItem 207 = .ok (.aload_n 0, 1) := by decide +kernel
theorem d_mo_readItem_208 : decode c_mo_readItem 208 = .ok (.getfield 28, 3) := by decide +kernel
theorem d_mo_readItem_211 : decode c_mo_readItem 211 = .ok (.bipush 6, 2) := by decide +kernel
theorem d_mo_readItem_213 : decode c_mo_readItem 213 = .ok (.iload_n 3, 1) := by decide +kernel
theorem d_mo_readItem_214 : decode c_mo_readItem 214 = .ok (.imul, 1) := by decide +kernel
theorem d_mo_readItem_215 : decode c_mo_readItem 215 = .ok (.iaload, 1) := by decide +kernel
theorem d_mo_readItem_216 : decode c_mo_readItem 216 = .ok (.aload_n 0, 1) := by decide +kernel
theorem d_mo_readItem_217 : decode c_mo_readItem 217 = .ok (.getfield 126, 3) := by decide +kernel
theorem d_mo_readItem_220 : decode c_mo_readItem 220 = .ok (.iload 7, 2) := by decide +kernel
theorem d_mo_readItem_222 : decode c_mo_readItem 222 = .ok (.iaload, 1) := by decide +kernel
theorem d_mo_readItem_223 : decode c_mo_readItem 223 = .ok (.aload_n 0, 1) := by decide +kernel
theorem d_mo_readItem_224 : decode c_mo_readItem 224 = .ok (.getfield 123, 3) := by decide +kernel
theorem d_mo_readItem_227 : decode c_mo_readItem 227 = .ok (.iload 7, 2) := by decide +kernel
theorem d_mo_readItem_229 : decode c_mo_readItem 229 = .ok (.iaload, 1) := by decide +kernel
theorem d_mo_readItem_230 : decode c_mo_readItem 230 = .ok (.iload 7, 2) := by decide +kernel
theorem d_mo_readItem_232 : decode c_mo_readItem 232 = .ok (.iconst 0, 1) := by decide +kernel
theorem d_mo_readItem_233 : decode c_mo_readItem 233 = .ok (.invokevirtual 184, 3) := by decide +kernel
theorem d_mo_readItem_236 : decode c_mo_readItem 236 = .ok (.goto 222, 3) := by decide +kernel
theorem d_mo_readItem_239 : decode c_mo_readItem 239 = .ok (.iload 8, 2) := by decide +kernel
theorem d_mo_readItem_241 : decode c_mo_readItem 241 = .ok (.bipush 9, 2) := by decide +kernel
theorem d_mo_readItem_243 : decode c_mo_readItem 243 = .ok (.if_icmp .ne 85, 3) := by decide +kernel
theorem d_mo_readItem_246 : decode c_mo_readItem 246 = .ok (.aload_n 0, 1) := by decide +kernel
theorem d_mo_readItem_247 : decode c_mo_readItem 247 = .ok (.iload_n 2, 1) := by decide +kernel
theorem d_mo_readItem_248 : decode c_mo_readItem 248 = .ok (.iload_n 3, 1) := by decide +kernel
theorem d_mo_readItem_249 : decode c_mo_readItem 249 = .ok (.invokevirtual 191, 3) := by decide +kernel
theorem d_mo_readItem_252 : decode c_mo_readItem 252 = .ok (.iconst 1, 1) := by decide +kernel
theorem d_mo_readItem_253 : decode c_mo_readItem 253 = .ok (.isub, 1) := by decide +kernel
theorem d_mo_readItem_254 : decode c_mo_readItem 254 = .ok (.istore 9, 2) := by decide +kernel
theorem d_mo_readItem_256 : decode c_mo_readItem 256 = .ok (.iload 9, 2) := by decide +kernel
theorem d_mo_readItem_258 : decode c_mo_readItem 258 = .ok (.ifCond .lt 67, 3) := by decide +kernel
theorem d_mo_readItem_261 : decode c_mo_readItem 261 = .ok (.aload_n 0, 1) := by decide +kernel
theorem d_mo_readItem_262 : decode c_mo_readItem 262 = .ok (.aload_n 0, 1) := by decide +kernel
theorem d_mo_readItem_263 : decode c_mo_readItem 263 = .ok (.getfield 28, 3) := by decide +kernel
theorem d_mo_readItem_266 : decode c_mo_readItem 266 = .ok (.bipush 6, 2) := by decide +kernel
theorem d_mo_readItem_268 : decode c_mo_readItem 268 = .ok (.iload_n 2, 1) := by decide +kernel
theorem d_mo_readItem_269 : decode c_mo_readItem 269 = .ok (.imul, 1) := by decide +kernel
theorem d_mo_readItem_270 : decode c_mo_readItem 270 = .ok (.iload 9, 2) := by decide +kernel
theorem d_mo_readItem_272 : decode c_mo_readItem 272 = .ok (.iadd, 1) := by decide +kernel
theorem d_mo_readItem_273 : decode c_mo_readItem 273 = .ok (.iaload, 1) := by decide +kernel
theorem d_mo_readItem_274 : decode c_mo_readItem 274 = .ok (.aload_n 0, 1) := by decide +kernel
theorem d_mo_readItem_275 : decode c_mo_readItem 275 = .ok (.getfield 28, 3) := by decide +kernel
theorem d_mo_readItem_278 : decode c_mo_readItem 278 = .ok (.bipush 6, 2) := by decide +kernel
theorem d_mo_readItem_280 : decode c_mo_readItem 280 = .ok (.iload_n 3, 1) := by decide +kernel
theorem d_mo_readItem_281 : decode c_mo_readItem 281 = .ok (.imul, 1) := by decide +kernel
theorem d_mo_readItem_282 : decode c_mo_readItem 282 = .ok (.iload 9, 2) := by decide +kernel
theorem d_mo_readItem_284 : decode c_mo_readItem 284 = .ok (.iadd, 1) := by decide +kernel
theorem d_mo_readItem_285 : decode c_mo_readItem 285 = .ok (.iaload, 1) := by decide +kernel
theorem d_mo_readItem_286 : decode c_mo_readItem 286 = .ok (.iconst 1, 1) := by decide +kernel
theorem d_mo_readItem_287 : decode c_mo_readItem 287 = .ok (.iload 4, 2) := by decide +kernel
theorem d_mo_readItem_289 : decode c_mo_readItem 289 = .ok (.aload_n 0, 1) := by decide +kernel
theorem d_mo_readItem_290 : decode c_mo_readItem 290 = .ok (.getfield 31, 3) := by decide +kernel
theorem d_mo_readItem_293 : decode c_mo_readItem 293 = .ok (.bipush 6, 2) := by decide +kernel
theorem d_mo_readItem_295 : decode c_mo_readItem 295 = .ok (.iload_n 2, 1) := by decide +kernel
theorem d_mo_readItem_296 : decode c_mo_readItem 296 = .ok (.imul, 1) := by decide +kernel
theorem d_mo_readItem_297 : decode c_mo_readItem 297 = .ok (.iload 9, 2) := by decide +kernel
theorem d_mo_readItem_299 : decode c_mo_readItem 299 = .ok (.iadd, 1) := by decide +kernel
theorem d_mo_readItem_300 : decode c_mo_readItem 300 = .ok (.iaload, 1) := by decide +kernel
theorem d_mo_readItem_301 : decode c_mo_readItem 301 = .ok (.iadd, 1) := by decide +kernel
theorem d_mo_readItem_302 : decode c_mo_readItem 302 = .ok (.iload 7, 2) := by decide +kernel
theorem d_mo_readItem_304 : decode c_mo_readItem 304 = .ok (.aload_n 0, 1) := by decide +kernel
theorem d_mo_readItem_305 : decode c_mo_readItem 305 = .ok (.getfield 31, 3) := by decide +kernel
theorem d_mo_readItem_308 : decode c_mo_readItem 308 = .ok (.bipush 6, 2) := by decide +kernel
theorem d_mo_readItem_310 : decode c_mo_readItem 310 = .ok (.iload_n 3, 1) := by decide +kernel
theorem d_mo_readItem_311 : decode c_mo_readItem 311 = .ok (.imul, 1) := by decide +kernel
theorem d_mo_readItem_312 : decode c_mo_readItem 312 = .ok (.iload 9, 2) := by decide +kernel
theorem d_mo_readItem_314 : decode c_mo_readItem 314 = .ok (.iadd, 1) := by decide +kernel
theorem d_mo_readItem_315 : decode c_mo_readItem 315 = .ok (.iaload, 1) := by decide +kernel
theorem d_mo_readItem_316 : decode c_mo_readItem 316 = .ok (.invokevirtual 184, 3) := by decide +kernel
theorem d_mo_readItem_319 : decode c_mo_readItem 319 = .ok (.iinc 9 (-1), 3) := by decide +kernel
theorem d_mo_readItem_322 : decode c_mo_readItem 322 = .ok (.goto (-66), 3) := by decide +kernel
theorem d_mo_readItem_325 : decode c_mo_readItem 325 = .ok (.goto 133, 3) := by decide +kernel
theorem d_mo_readItem_328 : decode c_mo_readItem 328 = .ok (.iload 8, 2) := by decide +kernel
theorem d_mo_readItem_330 : decode c_mo_readItem 330 = .ok (.bipush 10, 2) := by decide +kernel
theorem d_mo_readItem_332 : decode c_mo_readItem 332 = .ok (.if_icmp .ne 98, 3) := by decide +kernel
theorem d_mo_readItem_335 : decode c_mo_readItem 335 = .ok (.aload_n 0, 1) := by decide +kernel
theorem d_mo_readItem_336 : decode c_mo_readItem 336 = .ok (.iload_n 1, 1) := by decide +kernel
theorem d_mo_readItem_337 : decode c_mo_readItem 337 = .ok (.iload 4, 2) := by decide +kernel
theorem d_mo_readItem_339 : decode c_mo_readItem 339 = .ok (.invokevirtual 234, 3) := by decide +kernel
theorem d_mo_readItem_342 : decode c_mo_readItem 342 = .ok (.istore 9, 2) := by decide +kernel
theorem d_mo_readItem_344 : decode c_mo_readItem 344 = .ok (.iload 9, 2) := by decide +kernel
theorem d_mo_readItem_346 : decode c_mo_readItem 346 = .ok (.aload_n 0, 1) := by decide +kernel
theorem d_mo_readItem_347 : decode c_mo_readItem 347 = .ok (.getfield 25, 3) := by decide +kernel
theorem d_mo_readItem_350 : decode c_mo_readItem 350 = .ok (.iload_n 2, 1) := by decide +kernel
theorem d_mo_readItem_351 : decode c_mo_readItem 351 = .ok (.iaload, 1) := by decide +kernel
theorem d_mo_readItem_352 : decode c_mo_readItem 352 = .ok (.if_icmp .lt 10, 3) := by decide +kernel
theorem d_mo_readItem_355 : decode c_mo_readItem 355 = .ok (.aload_n 0, 1) := by decide +kernel
theorem d_mo_readItem_356 : decode c_mo_readItem 356 = .ok (.iconst 2, 1) := by decide +kernel
theorem d_mo_readItem_357 : decode c_mo_readItem 357 = .ok (.iload 4, 2) := by decide +kernel
theorem d_mo_readItem_359 : decode c_mo_readItem 359 = .ok (.invokevirtual 230, 3) := by decide +kernel
theorem d_mo_readItem_362 : decode c_mo_readItem 362 = .ok (.aload_n 0, 1) := by decide +kernel
theorem d_mo_readItem_363 : decode c_mo_readItem 363 = .ok (.getfield 224, 3) := by decide +kernel
theorem d_mo_readItem_366 : decode c_mo_readItem 366 = .ok (.ifCond .ne 61, 3) := by decide +kernel
theorem d_mo_readItem_369 : decode c_mo_readItem 369 = .ok (.aload_n 0, 1) := by decide +kernel
theorem d_mo_readItem_370 : decode c_mo_readItem 370 = .ok (.aload_n 0, 1) := by decide +kernel
theorem d_mo_readItem_371 : decode c_mo_readItem 371 = .ok (.getfield 28, 3) := by decide +kernel
theorem d_mo_readItem_374 : decode c_mo_readItem 374 = .ok (.bipush 6, 2) := by decide +kernel
theorem d_mo_readItem_376 : decode c_mo_readItem 376 = .ok (.iload_n 2, 1) := by decide +kernel
theorem d_mo_readItem_377 : decode c_mo_readItem 377 = .ok (.imul, 1) := by decide +kernel
theorem d_mo_readItem_378 : decode c_mo_readItem 378 = .ok (.iload 9, 2) := by decide +kernel
theorem d_mo_readItem_380 : decode c_mo_readItem 380 = .ok (.iadd, 1) := by decide +kernel
theorem d_mo_readItem_381 : decode c_mo_readItem 381 = .ok (.iaload, 1) := by decide +kernel
theorem d_mo_readItem_382 : decode c_mo_readItem 382 = .ok (.aload_n 0, 1) := by decide +kernel
theorem d_mo_readItem_383 : decode c_mo_readItem 383 = .ok (.getfield 28, 3) := by decide +kernel
theorem d_mo_readItem_386 : decode c_mo_readItem 386 = .ok (.bipush 6, 2) := by decide +kernel
theorem d_mo_readItem_388 : decode c_mo_readItem 388 = .ok (.iload_n 3, 1) := by decide +kernel
theorem d_mo_readItem_389 : decode c_mo_readItem 389 = .ok (.imul, 1) := by decide +kernel
theorem d_mo_readItem_390 : decode c_mo_readItem 390 = .ok (.iload 9, 2) := by decide +kernel
theorem d_mo_readItem_392 : decode c_mo_readItem 392 = .ok (.iadd, 1) := by decide +kernel
theorem d_mo_readItem_393 : decode c_mo_readItem 393 = .ok (.iaload, 1) := by decide +kernel
theorem d_mo_readItem_394 : decode c_mo_readItem 394 = .ok (.iconst 1, 1) := by decide +kernel
theorem d_mo_readItem_395 : decode c_mo_readItem 395 = .ok (.iload 4, 2) := by decide +kernel
theorem d_mo_readItem_397 : decode c_mo_readItem 397 = .ok (.aload_n 0, 1) := by decide +kernel
theorem d_mo_readItem_398 : decode c_mo_readItem 398 = .ok (.getfield 31, 3) := by decide +kernel
theorem d_mo_readItem_401 : decode c_mo_readItem 401 = .ok (.bipush 6, 2) := by decide +kernel
theorem d_mo_readItem_403 : decode c_mo_readItem 403 = .ok (.iload_n 2, 1) := by decide +kernel
theorem d_mo_readItem_404 : decode c_mo_readItem 404 = .ok (.imul, 1) := by decide +kernel
theorem d_mo_readItem_405 : decode c_mo_readItem 405 = .ok (.iload 9, 2) := by decide +kernel
theorem d_mo_readItem_407 : decode c_mo_readItem 407 = .ok (.iadd, 1) := by decide +kernel
theorem d_mo_readItem_408 : decode c_mo_readItem 408 = .ok (.iaload, 1) := by decide +kernel
theorem d_mo_readItem_409 : decode c_mo_readItem 409 = .ok (.iadd, 1) := by decide +kernel
theorem d_mo_readItem_410 : decode c_mo_readItem 410 = .ok (.iload 7, 2) := by decide +kernel
theorem d_mo_readItem_412 : decode c_mo_readItem 412 = .ok (.aload_n 0, 1) := by decide +kernel
theorem d_mo_readItem_413 : decode c_mo_readItem 413 = .ok (.getfield 31, 3) := by decide +kernel
theorem d_mo_readItem_416 : decode c_mo_readItem 416 = .ok (.bipush 6, 2) := by decide +kernel
theorem d_mo_readItem_418 : decode c_mo_readItem 418 = .ok (.iload_n 3, 1) := by decide +kernel
theorem d_mo_readItem_419 : decode c_mo_readItem 419 = .ok (.imul, 1) := by decide +kernel
theorem d_mo_readItem_420 : decode c_mo_readItem 420 = .ok (.iload 9, 2) := by decide +kernel
theorem d_mo_readItem_422 : decode c_mo_readItem 422 = .ok (.iadd, 1) := by decide +kernel
theorem d_mo_readItem_423 : decode c_mo_readItem 423 = .ok (.iaload, 1) := by decide +kernel
theorem d_mo_readItem_424 : decode c_mo_readItem 424 = .ok (.invokevirtual 184, 3) := by decide +kernel
theorem d_mo_readItem_427 : decode c_mo_readItem 427 = .ok (.goto 31, 3) := by decide +kernel
theorem d_mo_readItem_430 : decode c_mo_readItem 430 = .ok (.iload 8, 2) := by decide +kernel
theorem d_mo_readItem_432 : decode c_mo_readItem 432 = .ok (.bipush 10, 2) := by decide +kernel
theorem d_mo_readItem_434 : decode c_mo_readItem 434 = .ok (.if_icmp .le 16, 3) := by decide +kernel
theorem d_mo_readItem_437 : decode c_mo_readItem 437 = .ok (.aload_n 0, 1) := by decide +kernel
theorem d_mo_readItem_438 : decode c_mo_readItem 438 = .ok (.iload_n 1, 1) := by decide +kernel
theorem d_mo_readItem_439 : decode c_mo_readItem 439 = .ok (.iload_n 2, 1) := by decide +kernel
theorem d_mo_readItem_440 : decode c_mo_readItem 440 = .ok (.iload 4, 2) := by decide +kernel
theorem d_mo_readItem_442 : decode c_mo_readItem 442 = .ok (.iload 7, 2) := by decide +kernel
theorem d_mo_readItem_444 : decode c_mo_readItem 444 = .ok (.invokevirtual 247, 3) := by decide +kernel
theorem d_mo_readItem_447 : decode c_mo_readItem 447 = .ok (.goto 11, 3) := by decide +kernel
theorem d_mo_readItem_450 : decode c_mo_readItem 450 = .ok (.aload_n 0, 1) := by decide +kernel
theorem d_mo_readItem_451 : decode c_mo_readItem 451 = .ok (.iload_n 1, 1) := by decide +kernel
theorem d_mo_readItem_452 : decode c_mo_readItem 452 = .ok (.iload_n 2, 1) := by decide +kernel
theorem d_mo_readItem_453 : decode c_mo_readItem 453 = .ok (.iload 4, 2) := by decide +kernel
theorem d_mo_readItem_455 : decode c_mo_readItem 455 = .ok (.invokevirtual 251, 3) := by decide +kernel
theorem d_mo_readItem_458 : decode c_mo_readItem 458 = .ok (.return_, 1) := by decide +kernel
theorem d_mo_readAll_0 : decode c_mo_readAll 0 = .ok (.aload_n 0, 1) := by decide +kernel
theorem d_mo_readAll_1 : decode c_mo_readAll 1 = .ok (.iconst 0, 1) := by decide +kernel
theorem d_mo_readAll_2 : decode c_mo_readAll 2 = .ok (.putfield 181, 3) := by decide +kernel
theorem d_mo_readAll_5 : decode c_mo_readAll 5 = .ok (.aload_n 0, 1) := by decide +kernel
theorem d_mo_readAll_6 : decode c_mo_readAll 6 = .ok (.iconst 0, 1) := by decide +kernel
theorem d_mo_readAll_7 : decode c_mo_readAll 7 = .ok (.putfield 237, 3) := by decide +kernel
theorem d_mo_readAll_10 : decode c_mo_readAll 10 = .ok (.aload_n 0, 1) := by decide +kernel
theorem d_mo_readAll_11 : decode c_mo_readAll 11 = .ok (.iload_n 2, 1) := by decide +kernel
theorem d_mo_readAll_12 : decode c_mo_readAll 12 = .ok (.iload 4, 2) := by decide +kernel
theorem d_mo_readAll_14 : decode c_mo_readAll 14 = .ok (.iconst 1, 1) := by decide +kernel
theorem d_mo_readAll_15 : decode c_mo_readAll 15 = .ok (.iload_n 3, 1) := by decide +kernel
theorem d_mo_readAll_16 : decode c_mo_readAll 16 = .ok (.iconst (-1), 1) := by decide +kernel
theorem d_mo_readAll_17 : decode c_mo_readAll 17 = .ok (.iconst 0, 1) := by decide +kernel
theorem d_mo_readAll_18 : decode c_mo_readAll 18 = .ok (.invokevirtual 184, 3) := by decide +kernel
theorem d_mo_readAll_21 : decode c_mo_readAll 21 = .ok (.aload_n 0, 1) := by decide +kernel
theorem d_mo_readAll_22 : decode c_mo_readAll 22 = .ok (.getfield 181, 3) := by decide +kernel
theorem d_mo_readAll_25 : decode c_mo_readAll 25 = .ok (.ifCond .le 149, 3) := by decide +kernel
theorem d_mo_readAll_28 : decode c_mo_readAll 28 = .ok (.aload_n 0, 1) := by decide +kernel
theorem d_mo_readAll_29 : decode c_mo_readAll 29 = .ok (.getfield 224, 3) := by decide +kernel
theorem d_mo_readAll_32 : decode c_mo_readAll 32 = .ok (.ifCond .ne 142, 3) := by decide +kernel
theorem d_mo_readAll_35 : decode c_mo_readAll 35 = .ok (.aload_n 0, 1) := by decide +kernel
theorem d_mo_readAll_36 : decode c_mo_readAll 36 = .ok (.getfield 181, 3) := by decide +kernel
theorem d_mo_readAll_39 : decode c_mo_readAll 39 = .ok (.iconst 1, 1) := by decide +kernel
theorem d_mo_readAll_40 : decode c_mo_readAll 40 = .ok (.isub, 1) := by decide +kernel
theorem d_mo_readAll_41 : decode c_mo_readAll 41 = .ok (.istore 5, 2) := by decide +kernel
theorem d_mo_readAll_43 : decode c_mo_readAll 43 = .ok (.aload_n 0, 1) := by decide +kernel
theorem d_mo_readAll_44 : decode c_mo_readAll 44 = .ok (.getfield 93, 3) := by decide +kernel
theorem d_mo_readAll_47 : decode c_mo_readAll 47 = .ok (.iload 5, 2) := by decide +kernel
theorem d_mo_readAll_49 : decode c_mo_readAll 49 = .ok (.iaload, 1) := by decide +kernel
theorem d_mo_readAll_50 : decode c_mo_readAll 50 = .ok (.istore 6, 2) := by decide +kernel
theorem d_mo_readAll_52 : decode c_mo_readAll 52 = .ok (.aload_n 0, 1) := by decide +kernel
theorem d_mo_readAll_53 : decode c_mo_readAll 53 = .ok (.getfield 96, 3) := by decide +kernel
theorem d_mo_readAll_56 : decode c_mo_readAll 56 = .ok (.iload 5, 2) := by decide +kernel
theorem d_mo_readAll_58 : decode c_mo_readAll 58 = .ok (.iaload, 1) := by decide +kernel
theorem d_mo_readAll_59 : decode c_mo_readAll 59 = .ok (.istore 7, 2) := by decide +kernel
theorem d_mo_readAll_61 : decode c_mo_readAll 61 = .ok (.aload_n 0, 1) := by decide +kernel
theorem d_mo_readAll_62 : decode c_mo_readAll 62 = .ok (.getfield 102, 3) := by decide +kernel
theorem d_mo_readAll_65 : decode c_mo_readAll 65 = .ok (.iload 5, 2) := by decide +kernel
theorem d_mo_readAll_67 : decode c_mo_readAll 67 = .ok (.iaload, 1) := by decide +kernel
theorem d_mo_readAll_68 : decode c_mo_readAll 68 = .ok (.istore 8, 2) := by decide +kernel
theorem d_mo_readAll_70 : decode c_mo_readAll 70 = .ok (.aload_n 0, 1) := by decide +kernel
theorem d_mo_readAll_71 : decode c_mo_readAll 71 = .ok (.getfield 105, 3) := by decide +kernel
theorem d_mo_readAll_74 : decode c_mo_readAll 74 = .ok (.iload 5, 2) := by decide +kernel
theorem d_mo_readAll_76 : decode c_mo_readAll 76 = .ok (.iaload, 1) := by decide +kernel
theorem d_mo_readAll_77 : decode c_mo_readAll 77 = .ok (.istore 9, 2) := by decide +kernel
theorem d_mo_readAll_79 : decode c_mo_readAll 79 = .ok (.aload_n 0, 1) := by decide +kernel
theorem d_mo_readAll_80 : decode c_mo_readAll 80 = .ok (.getfield 108, 3) := by decide +kernel
theorem d_mo_readAll_83 : decode c_mo_readAll 83 = .ok (.iload 5, 2) := by decide +kernel
theorem d_mo_readAll_85 : decode c_mo_readAll 85 = .ok (.iaload, 1) := by decide +kernel
theorem d_mo_readAll_86 : decode c_mo_readAll 86 = .ok (.istore 10, 2) := by decide +kernel
theorem d_mo_readAll_88 : decode c_mo_readAll 88 = .ok (.aload_n 0, 1) := by decide +kernel
theorem d_mo_readAll_89 : decode c_mo_readAll 89 = .ok (.getfield 99, 3) := by decide +kernel
theorem d_mo_readAll_92 : decode c_mo_readAll 92 = .ok (.iload 5, 2) := by decide +kernel
theorem d_mo_readAll_94 : decode c_mo_readAll 94 = .ok (.dup2, 1) := by decide +kernel
theorem d_mo_readAll_95 : decode c_mo_readAll 95 = .ok (.iaload, 1) := by decide +kernel
theorem d_mo_readAll_96 : decode c_mo_readAll 96 = .ok (.iconst 1, 1) := by decide +kernel
theorem d_mo_readAll_97 : decode c_mo_readAll 97 = .ok (.isub, 1) := by decide +kernel
theorem d_mo_readAll_98 : decode c_mo_readAll 98 = .ok (.iastore, 1) := by decide +kernel
theorem d_mo_readAll_99 : decode c_mo_readAll 99 = .ok (.aload_n 0, 1) := by decide +kernel
theorem d_mo_readAll_100 : decode c_mo_readAll 100 = .ok (.getfield 102, 3) := by decide +kernel
theorem d_mo_readAll_103 : decode c_mo_readAll 103 = .ok (.iload 5, 2) := by decide +kernel
theorem d_mo_readAll_105 : decode c_mo_readAll 105 = .ok (.iload 8, 2) := by decide +kernel
theorem d_mo_readAll_107 : decode c_mo_readAll 107 = .ok (.aload_n 0, 1) := by decide +kernel
theorem d_mo_readAll_108 : decode c_mo_readAll 108 = .ok (.getfield 16, 3) := by decide +kernel
theorem d_mo_readAll_111 : decode c_mo_readAll 111 = .ok (.iload 6, 2) := by decide +kernel
theorem d_mo_readAll_113 : decode c_mo_readAll 113 = .ok (.iaload, 1) := by decide +kernel
theorem d_mo_readAll_114 : decode c_mo_readAll 114 = .ok (.iadd, 1) := by decide +kernel
theorem d_mo_readAll_115 : decode c_mo_readAll 115 = .ok (.iastore, 1) := by decide +kernel
theorem d_mo_readAll_116 : decode c_mo_readAll 116 = .ok (.aload_n 0, 1) := by decide +kernel
theorem d_mo_readAll_117 : decode c_mo_readAll 117 = .ok (.getfield 108, 3) := by decide +kernel
theorem d_mo_readAll_120 : decode c_mo_readAll 120 = .ok (.iload 5, 2) := by decide +kernel
theorem d_mo_readAll_122 : decode c_mo_readAll 122 = .ok (.iload 10, 2) := by decide +kernel
theorem d_mo_readAll_124 : decode c_mo_readAll 124 = .ok (.aload_n 0, 1) := by decide +kernel
theorem d_mo_readAll_125 : decode c_mo_readAll 125 = .ok (.getfield 16, 3) := by decide +kernel
theorem d_mo_readAll_128 : decode c_mo_readAll 128 = .ok (.iload 7, 2) := by decide +kernel
theorem d_mo_readAll_130 : decode c_mo_readAll 130 = .ok (.iaload, 1) := by decide +kernel
theorem d_mo_readAll_131 : decode c_mo_readAll 131 = .ok (.iadd, 1) := by decide +kernel
theorem d_mo_readAll_132 : decode c_mo_readAll 132 = .ok (.iastore, 1) := by decide +kernel
theorem d_mo_readAll_133 : decode c_mo_readAll 133 = .ok (.aload_n 0, 1) := by decide +kernel
theorem d_mo_readAll_134 : decode c_mo_readAll 134 = .ok (.aload_n 0, 1) := by decide +kernel
theorem d_mo_readAll_135 : decode c_mo_readAll 135 = .ok (.getfield 99, 3) := by decide +kernel
theorem d_mo_readAll_138 : decode c_mo_readAll 138 = .ok (.iload 5, 2) := by decide +kernel
theorem d_mo_readAll_140 : decode c_mo_readAll 140 = .ok (.iaload, 1) := by decide +kernel
theorem d_mo_readAll_141 : decode c_mo_readAll 141 = .ok (.ifCond .ne 8, 3) := by decide +kernel
theorem d_mo_readAll_144 : decode c_mo_readAll 144 = .ok (.iload 5, 2) := by decide +kernel
theorem d_mo_readAll_146 : decode c_mo_readAll 146 = .ok (.goto 7, 3) := by decide +kernel
theorem d_mo_readAll_149 : decode c_mo_readAll 149 = .ok (.aload_n 0, 1) := by decide +kernel
theorem d_mo_readAll_150 : decode c_mo_readAll 150 = .ok (.getfield 181, 3) := by decide +kernel
theorem d_mo_readAll_153 : decode c_mo_readAll 153 = .ok (.putfield 181, 3) := by decide +kernel
theorem d_mo_readAll_156 : decode c_mo_readAll 156 = .ok (.aload_n 0, 1) := by decide +kernel
theorem d_mo_readAll_157 : decode c_mo_readAll 157 = .ok (.iload_n 1, 1) := by decide +kernel
theorem d_mo_readAll_158 : decode c_mo_readAll 158 = .ok (.iload 6, 2) := by decide +kernel
theorem d_mo_readAll_160 : decode c_mo_readAll 160 = .ok (.iload 7, 2) := by decide +kernel
theorem d_mo_readAll_162 : decode c_mo_readAll 162 = .ok (.iload 8, 2) := by decide +kernel
theorem d_mo_readAll_164 : decode c_mo_readAll 164 = .ok (.iload 9, 2) := by decide +kernel
theorem d_mo_readAll_166 : decode c_mo_readAll 166 = .ok (.iload 10, 2) := by decide +kernel
theorem d_mo_readAll_168 : decode c_mo_readAll 168 = .ok (.invokevirtual 257, 3) := by decide +kernel
theorem d_mo_readAll_171 : decode c_mo_readAll 171 = .ok (.goto (-150), 3) := by decide +kernel
theorem d_mo_readAll_174 : decode c_mo_readAll 174 = .ok (.return_, 1) := by decide +kernel
end
section
set_option maxHeartbeats 4000000 in
set_option maxRecDepth 100000 in
theorem mt_numberF {l : Launch} {D : va_G} {tl : List (ClassId × FieldType)} {Z : (Nat → Prop) → State → Heap → Prop} {kI kZ : ClassId} {am : Nat → Nat} {F : Nat → Int32} {B : Nat → Nat → Int32} (hZ : ev_Zok Z) (ii : Nat) (p : Int32) (k : Nat) (h0 : ¬ F 54 = 0) : MT (mo_π l D cl_A kI kZ tl Z) m_number 0 0 [.ref (am 60), .int (nI ii), .int p, .int (nI k)] (mo_W mo_ci am kI kZ F B) (mo_qi am kI kZ (fun x F1 B1 => x = 0 ∧ F1 = F ∧ B1 = B)) := by
  refine mt_of mo_pl rfl (Nat.le_of_ble_eq_true rfl) (ev_eq (lv' := [some (.ref (am 60)), some (.int (nI ii)), some (.int p), some (.int (nI k)), none, none]) ?_)
  refine ev_iconst_0 0 d_mo_number_0 ?_
  refine ev_istore_4 1 d_mo_number_1 ?_
  refine ev_iconst_0 3 d_mo_number_3 ?_
  refine ev_istore_5 4 d_mo_number_4 ?_
  refine ev_iload_5 6 d_mo_number_6 ?_
  refine ev_iload_3 8 d_mo_number_8 ?_
  refine ev_icmpge 9 45 d_mo_number_9 (fun c9 => ?_) (fun c9 => ?_)
  · refine ev_iload_4 45 d_mo_number_45 ?_
    refine ev_iret 47 d_mo_number_47 rfl ?_
    exact ⟨_, _, _, rfl, rfl, rfl, rfl, rfl⟩
  · refine ev_aload_0 12 d_mo_number_12 ?_
    refine mo_geti 13 54 d_mo_number_13 lk_224 ?_
    refine ev_ifne 16 45 d_mo_number_16 (fun c16 => ?_) (fun c16 => ?_)
    · refine ev_iload_4 45 d_mo_number_45 ?_
      refine ev_iret 47 d_mo_number_47 rfl ?_
      exact ⟨_, _, _, rfl, rfl, rfl, rfl, rfl⟩
    · exact absurd c16 h0

theorem mt_numberG {l : Launch} {D : va_G} {tl : List (ClassId × FieldType)} {Z : (Nat → Prop) → State → Heap → Prop} {kI kZ : ClassId} {am : Nat → Nat} {F : Nat → Int32} {B : Nat → Nat → Int32} (hZ : ev_Zok Z) (ii : Nat) (p : Int32) (k : Nat) (hii : ii < 6) (hk : k ≤ 100) : MT (mo_π l D cl_A kI kZ tl Z) m_number 0 0 [.ref (am 60), .int (nI ii), .int p, .int (nI k)] (mo_W mo_ci am kI kZ F B) (mo_qi am kI kZ (fun x F1 B1 => ((F 54 = 0 ∧ mo_rg p k = none ∧ F1 = F ∧ x = mo_nb (B 13) ii p k) ∨ (F 54 = 0 ∧ ∃ q, mo_rg p k = some q ∧ F1 = mo_fl F 1 q) ∨ (¬ F 54 = 0 ∧ F1 = F)) ∧ B1 = B)) := by
  by_cases h0 : F 54 = 0
  · refine mt_mono (mt_number hZ ii p k hii hk h0) ?_
    rintro r w ⟨x, F1, B1, e1, e2, h | h, e3⟩
    · exact ⟨x, F1, B1, e1, e2, Or.inl ⟨h0, h⟩, e3⟩
    · exact ⟨x, F1, B1, e1, e2, Or.inr (Or.inl ⟨h0, h⟩), e3⟩
  · refine mt_mono (mt_numberF hZ ii p k h0) ?_
    rintro r w ⟨x, F1, B1, e1, e2, -, h, e3⟩
    exact ⟨x, F1, B1, e1, e2, Or.inr (Or.inr ⟨h0, h⟩), e3⟩
theorem nx_or (a b : Nat) : nI a ||| nI b = nI (a ||| b) := by
  apply Int32.toBitVec_inj.1
  show BitVec.ofNat 32 a ||| BitVec.ofNat 32 b = BitVec.ofNat 32 (a ||| b)
  apply BitVec.eq_of_getLsbD_eq
  intro i hi
  simp [hi]
theorem nb_or2 {a b : Nat} (ha : a < 256) (hb : b < 256) : ((0 : Int32) ||| (nI a <<< ((8 * nI 0) &&& 31))) ||| (nI b <<< ((8 * nI 1) &&& 31)) = nI (a + 256 * b) := by
  rw [pk_shlN (n := a) _ 0 (by decide) (by omega), pk_shlN (n := b) _ 8 (by decide) (by omega), show (0 : Int32) = nI 0 from rfl, nx_or, nx_or]
  congr 1
  rw [Nat.zero_or, Nat.pow_zero, Nat.mul_one, Nat.or_comm, ← Nat.shiftLeft_eq, ← Nat.shiftLeft_add_eq_or_of_lt ha b, Nat.shiftLeft_eq]
  omega
/-- the memory holds bytes -/
def mo_b8 (B : Nat → Nat → Int32) : Prop := ∀ j, j < 1536 → ∃ b, b < 256 ∧ B 13 j = nI b
theorem mo_b8_at {B : Nat → Nat → Int32} (h8 : mo_b8 B) {ii : Nat} (hi : ii < 6) {p : Int32} (h : ¬ (p < 0 ∨ 255 < p)) : ∃ b, b < 256 ∧ B 13 (256 * nI ii + p).toNatClampNeg = nI b := by
  obtain ⟨j, hj, e⟩ := vp_in_of (mo_bb hi p (fun z => h (Or.inl z)) (fun z => h (Or.inr z))) (by decide)
  rw [e, nI_clamp (by omega)]
  exact h8 j hj
theorem mo_nb2 {B : Nat → Nat → Int32} (h8 : mo_b8 B) {ii : Nat} (hi : ii < 6) {p : Int32} (h : mo_rg p 2 = none) : ∃ v, v ≤ 65535 ∧ mo_nb (B 13) ii p 2 = nI v := by
  have h1 : mo_rg p 1 = none := mo_rg_le 1 h
  have g0 : ¬ (p + nI 0 < 0 ∨ 255 < p + nI 0) := by
    rw [mo_rg, show mo_rg p 0 = none from rfl] at h1
    exact fun z => by rw [if_pos z] at h1; cases h1
  have g1 : ¬ (p + nI 1 < 0 ∨ 255 < p + nI 1) := by
    rw [mo_rg, h1] at h
    exact fun z => by rw [if_pos z] at h; cases h
  obtain ⟨a, ha, ea⟩ := mo_b8_at h8 hi g0
  obtain ⟨b, hb, eb⟩ := mo_b8_at h8 hi g1
  refine ⟨a + 256 * b, by omega, ?_⟩
  rw [mo_nb, mo_nb, mo_nb, ea, eb]
  exact nb_or2 ha hb
def ri_B0 (B : Nat → Nat → Int32) (nn uu : Nat) (p ab inn : Int32) : Nat → Nat → Int32 := va_up (va_up (va_up (va_up B 44 (upd (B 44) nn (nI uu))) 45 (upd (B 45) nn p)) 46 (upd (B 46) nn ab)) 47 (upd (B 47) nn inn)
abbrev ri_E : Type := Int32 × Int32 × Int32 × Int32 × Int32 × Int32
abbrev ri_T : Type := (Int32 × Int32) ⊕ ((Nat → Nat → Int32) × Nat × (Nat → ri_E))
/-- part k of a record or variant, to wait -/
def ri_e (B : Nat → Nat → Int32) (tt uu : Nat) (p : Int32) (nn k : Nat) : ri_E := (B 8 (6 * tt + k), B 8 (6 * uu + k), 1, p + B 9 (6 * tt + k), nI nn, B 9 (6 * uu + k))
def ri_B1 (B : Nat → Nat → Int32) (ii nn uu : Nat) (p ab inn : Int32) : Nat → Nat → Int32 := va_up (va_up (ri_B0 B nn uu p ab inn) 48 (upd (B 48) nn (mo_nb (B 13) ii p 2))) 49 (upd (B 49) nn (mo_nb (B 13) ii (p + 2) 2))
/-- where a text or a list stands: a trap or none -/
def ri_h (p : Int32) : Option Int32 := match mo_rg p 2 with
  | some q => some q
  | none => mo_rg (p + 2) 2
/-- one item: a trap, or the tables behind it and what waits then -/
def ri_1 (B : Nat → Nat → Int32) (ct : Nat → Nat) (ii tt uu : Nat) (p ab inn : Int32) (nn : Nat) : ri_T :=
  if nn = 200 then .inl (10, p) else
  if ¬ p - p / B 5 tt * B 5 tt = 0 then .inl (5, p) else
  if B 2 tt = 6 then (match ri_h p with
    | some q => .inl (1, q)
    | none => match tx_r (B 13) ii (mo_nb (B 13) ii p 2).toNatClampNeg (mo_nb (B 13) ii (p + 2) 2).toNatClampNeg ((mo_nb (B 13) ii (p + 2) 2).toNatClampNeg + 1) 0 with
      | some r => .inl r
      | none => .inr (ri_B1 B ii nn uu p ab inn, 0, fun _ => (0, 0, 0, 0, 0, 0))) else
  if B 2 tt = 8 then (match ri_h p with
    | some q => .inl (1, q)
    | none => if mo_nb (B 13) ii (p + 2) 2 ≤ 0 then .inr (ri_B1 B ii nn uu p ab inn, 0, fun _ => (0, 0, 0, 0, 0, 0))
      else .inr (ri_B1 B ii nn uu p ab inn, 1, fun _ => (B 8 (6 * tt), B 8 (6 * uu), mo_nb (B 13) ii (p + 2) 2, mo_nb (B 13) ii p 2, nI nn, 0))) else
  if B 2 tt = 9 then .inr (ri_B0 B nn uu p ab inn, ty_sh ct tt uu, fun j => ri_e B tt uu p nn (ty_sh ct tt uu - 1 - j)) else
  if B 2 tt = 10 then (if p < 0 ∨ 255 < p then .inl (1, p) else if ¬ B 13 (256 * nI ii + p).toNatClampNeg < B 7 tt then .inl (2, p)
    else .inr (ri_B0 B nn uu p ab inn, 1, fun _ => ri_e B tt uu p nn (B 13 (256 * nI ii + p).toNatClampNeg).toNatClampNeg)) else
  if ¬ B 2 tt ≤ 10 then (match (mo_rh (ri_B0 B nn uu p ab inn) ii tt p nn).1 with
    | some r => .inl r
    | none => .inr ((mo_rh (ri_B0 B nn uu p ab inn) ii tt p nn).2, 0, fun _ => (0, 0, 0, 0, 0, 0))) else
  (match mo_rp B ii tt p with
    | some r => .inl r
    | none => .inr (ri_B0 B nn uu p ab inn, 0, fun _ => (0, 0, 0, 0, 0, 0)))
/-- what is kept for the length of a passing alone -/
def mo_sc (B B' : Nat → Nat → Int32) : Prop := ∀ k, k ≠ 20 → k ≠ 21 → (k < 37 ∨ 42 < k) → (k < 44 ∨ 51 < k) → B' k = B k
theorem mo_sc.rf (B : Nat → Nat → Int32) : mo_sc B B := fun _ _ _ _ _ => rfl
theorem mo_sc.tr {B B' B'' : Nat → Nat → Int32} (a : mo_sc B B') (b : mo_sc B' B'') : mo_sc B B'' := fun k h1 h2 h3 h4 => (b k h1 h2 h3 h4).trans (a k h1 h2 h3 h4)
theorem mo_sc.up {B : Nat → Nat → Int32} {k : Nat} {g : Nat → Int32} (h : k = 20 ∨ k = 21 ∨ (37 ≤ k ∧ k ≤ 42) ∨ (44 ≤ k ∧ k ≤ 51)) : mo_sc B (va_up B k g) := by
  intro j h1 h2 h3 h4
  exact va_up_ne B g (by omega)
theorem mo_sw.sc {h : Nat} {B B' : Nat → Nat → Int32} (a : mo_sw h B B') : mo_sc B B' := fun k _ _ h3 _ => a.1 k h3
theorem ri_B0_sc (B : Nat → Nat → Int32) (nn uu : Nat) (p ab inn : Int32) : mo_sc B (ri_B0 B nn uu p ab inn) := (((mo_sc.up (by omega)).tr (mo_sc.up (by omega))).tr (mo_sc.up (by omega))).tr (mo_sc.up (by omega))
def mo_ea (B : Nat → Nat → Int32) (w : Nat) (e : ri_E) : Prop := B 37 w = e.1 ∧ B 38 w = e.2.1 ∧ B 39 w = e.2.2.1 ∧ B 40 w = e.2.2.2.1 ∧ B 41 w = e.2.2.2.2.1 ∧ B 42 w = e.2.2.2.2.2
def ri_q (F : Nat → Int32) (B : Nat → Nat → Int32) (h nn : Nat) (R : ri_T) (F1 : Nat → Int32) (B1 : Nat → Nat → Int32) : Prop := match R with
  | .inl r => F1 54 = r.1 ∧ F1 55 = r.2 ∧ (∀ k, k ≠ 43 → k ≠ 54 → k ≠ 55 → F1 k = F k) ∧ mo_sc B B1
  | .inr q => F1 = upd (upd F 43 (nI (nn + 1))) 36 (nI (h + q.2.1)) ∧ mo_sw h q.1 B1 ∧ ∀ j, j < q.2.1 → mo_ea B1 (h + j) (q.2.2 j)
theorem upd_id {f : Nat → Int32} {k : Nat} {x : Int32} (h : f k = x) : upd f k x = f := by
  funext j; simp only [upd]; split
  · rename_i e; rw [e, h]
  · rfl
theorem ri_q0 {F : Nat → Int32} {B B' : Nat → Nat → Int32} {h nn : Nat} {e : Nat → ri_E} (hh : F 36 = nI h) : ri_q F B h nn (.inr (B', 0, e)) (upd F 43 (nI (nn + 1))) B' :=
  ⟨(upd_id (show upd F 43 (nI (nn + 1)) 36 = nI (h + 0) from hh)).symm, mo_sw.rf _ _, fun j hj => absurd hj (Nat.not_lt_zero j)⟩
theorem mo_fl3 {F : Nat → Int32} (h : F 54 = 0) (c p : Int32) : mo_fl F c p 54 = c ∧ mo_fl F c p 55 = p ∧ ∀ k, k ≠ 54 → k ≠ 55 → mo_fl F c p k = F k := by
  rw [mo_fl, if_pos h]
  exact ⟨rfl, rfl, fun k h1 h2 => (upd_ne h2).trans (upd_ne h1)⟩
theorem ri_qt {F : Nat → Int32} {B B1 : Nat → Nat → Int32} {h nn : Nat} {r : Int32 × Int32} (h0 : F 54 = 0) (hs : mo_sc B B1) : ri_q F B h nn (.inl r) (mo_fl F r.1 r.2) B1 := by
  obtain ⟨a, b, c⟩ := mo_fl3 h0 r.1 r.2
  exact ⟨a, b, fun k _ h2 h3 => c k h2 h3, hs⟩
theorem ri_qt2 {F : Nat → Int32} {B B1 : Nat → Nat → Int32} {h nn : Nat} {r : Int32 × Int32} {x : Int32} (h0 : F 54 = 0) (hs : mo_sc B B1) : ri_q F B h nn (.inl r) (mo_fl (upd F 43 x) r.1 r.2) B1 := by
  obtain ⟨a, b, c⟩ := mo_fl3 (F := upd F 43 x) h0 r.1 r.2
  exact ⟨a, b, fun k h1 h2 h3 => (c k h2 h3).trans (upd_ne h1), hs⟩
/-- the two numbers of a text or a list -/
theorem ri_hd {F F1 F2 : Nat → Int32} {B B' : Nat → Nat → Int32} {ii : Nat} {p x1 x2 : Int32} (h0 : F 54 = 0) (hB : B' 13 = B 13)
    (h1 : (F 54 = 0 ∧ mo_rg p 2 = none ∧ F1 = F ∧ x1 = mo_nb (B 13) ii p 2) ∨ (F 54 = 0 ∧ ∃ q, mo_rg p 2 = some q ∧ F1 = mo_fl F 1 q) ∨ (¬ F 54 = 0 ∧ F1 = F))
    (h2 : (F1 54 = 0 ∧ mo_rg (p + 2) 2 = none ∧ F2 = F1 ∧ x2 = mo_nb (B' 13) ii (p + 2) 2) ∨ (F1 54 = 0 ∧ ∃ q, mo_rg (p + 2) 2 = some q ∧ F2 = mo_fl F1 1 q) ∨ (¬ F1 54 = 0 ∧ F2 = F1)) :
    (F2 54 = 0 ∧ ri_h p = none ∧ mo_rg p 2 = none ∧ mo_rg (p + 2) 2 = none ∧ F2 = F ∧ x1 = mo_nb (B 13) ii p 2 ∧ x2 = mo_nb (B 13) ii (p + 2) 2) ∨ (¬ F2 54 = 0 ∧ ∃ q, ri_h p = some q ∧ F2 = mo_fl F 1 q) := by
  rcases h1 with ⟨-, a, e1, b⟩ | ⟨-, q, a, e1⟩ | ⟨a, -⟩
  · subst e1
    rcases h2 with ⟨-, a2, e2, b2⟩ | ⟨-, q, a2, e2⟩ | ⟨z, -⟩
    · subst e2
      exact Or.inl ⟨h0, by rw [ri_h, a]; exact a2, a, a2, rfl, b, by rw [hB] at b2; exact b2⟩
    · refine Or.inr ⟨by rw [e2, mo_fl1 h0]; decide, q, by rw [ri_h, a]; exact a2, e2⟩
    · exact absurd h0 z
  · have n1 : ¬ F1 54 = 0 := by rw [e1, mo_fl1 h0]; decide
    rcases h2 with ⟨z, -⟩ | ⟨z, -⟩ | ⟨-, e2⟩
    · exact absurd z n1
    · exact absurd z n1
    · subst e2
      exact Or.inr ⟨n1, q, by rw [ri_h, a], e1⟩
  · exact absurd h0 a

theorem mo_rh_sc (B : Nat → Nat → Int32) (ii tt : Nat) (p : Int32) (it : Nat) : mo_sc B (mo_rh B ii tt p it).2 := by
  unfold mo_rh
  split
  · exact mo_sc.rf _
  · split
    · exact mo_sc.rf _
    · split
      · exact mo_sc.up (by omega)
      · split
        · exact (mo_sc.up (by omega)).tr (mo_sc.up (by omega))
        · split
          · exact mo_sc.up (by omega)
          · split
            · exact mo_sc.up (by omega)
            · exact (mo_sc.up (by omega)).tr (mo_sc.up (by omega))

set_option maxHeartbeats 4000000 in
set_option maxRecDepth 100000 in
theorem mt_readItem {l : Launch} {D : va_G} {tl : List (ClassId × FieldType)} {Z : (Nat → Prop) → State → Heap → Prop} {kI kZ : ClassId} {am : Nat → Nat} {F : Nat → Int32} {B : Nat → Nat → Int32} (hZ : ev_Zok Z) (ii : Nat) (tt : Nat) (uu : Nat) (p : Int32) (ab : Int32) (inn : Int32) (hii : ii < 6) (NT : Nat) (ct dp : Nat → Nat) (pt : Nat → Nat → Nat) (hW : ty_wf B NT ct dp pt) (htt : tt < NT) (huu : uu < NT) (h0 : F 54 = 0) (h8 : mo_b8 B) (hal : ¬ B 5 tt = 0) (nn : Nat) (hnn : F 43 = nI nn) (hn200 : nn ≤ 200) (h : Nat) (hh : F 36 = nI h) (hh58 : h ≤ 58) (hG : ∀ y, y < 102 → ¬ B 16 y = 0 → vp_in (B 17 y) 1024) (hpl : ¬ B 2 tt = 6 → ¬ B 2 tt = 8 → ¬ B 2 tt = 9 → ¬ B 2 tt = 10 → B 2 tt ≤ 10 → ∃ sz, B 4 tt = nI sz ∧ 1 ≤ sz ∧ sz ≤ 8 ∧ (B 2 tt = 5 → sz = 4)) : MT (mo_π l D cl_A kI kZ tl Z) m_readItem 0 0 [.ref (am 60), .int (nI ii), .int (nI tt), .int (nI uu), .int p, .int ab, .int inn] (mo_W mo_ci am kI kZ F B) (mo_qv am kI kZ (fun F1 B1 => ri_q F B h nn (ri_1 B ct ii tt uu p ab inn nn) F1 B1)) := by
  refine mt_of mo_pl rfl (Nat.le_of_ble_eq_true rfl) (ev_eq (lv' := [some (.ref (am 60)), some (.int (nI ii)), some (.int (nI tt)), some (.int (nI uu)), some (.int p), some (.int ab), some (.int inn), none, none, none]) ?_)
  have hn2e : ∀ (c7 : ¬ F 43 = 200), ¬ nn = 200 := fun c7 z => c7 (by rw [hnn, z]; rfl)
  have hsh : ty_sh ct tt uu ≤ ct tt ∧ ty_sh ct tt uu ≤ ct uu ∧ ty_sh ct tt uu ≤ 6 := by
    have h1 := (hW.2.1 tt htt).2.1
    have h2 := (hW.2.1 uu huu).2.1
    unfold ty_sh; split <;> omega
  have hT32 := hW.1
  have PU : ¬ nn = 200 → p - p / B 5 tt * B 5 tt = 0 → ¬ B 2 tt = 6 → ¬ B 2 tt = 8 → B 2 tt = 9 → ∀ (r : Nat) (B1 : Nat → Nat → Int32), r ≤ ty_sh ct tt uu → mo_sw h (ri_B0 B nn uu p ab inn) B1 → (∀ j, j < ty_sh ct tt uu - r → mo_ea B1 (h + j) (ri_e B tt uu p nn (ty_sh ct tt uu - 1 - j))) → EV (mo_π l D cl_A kI kZ tl Z) m_readItem (ev_E (mo_π l D cl_A kI kZ tl Z) 0 0 (mo_qv am kI kZ (fun F1 B1 => ri_q F B h nn (ri_1 B ct ii tt uu p ab inn nn) F1 B1))) 0 0 256 [some (.ref (am 60)), some (.int (nI ii)), some (.int (nI tt)), some (.int (nI uu)), some (.int p), some (.int ab), some (.int inn), some (.int (nI nn)), some (.int (B 2 tt)), some (.int (nI r - 1))] [] (mo_W mo_ci am kI kZ (upd (upd F 43 (nI (nn + 1))) 36 (nI (h + (ty_sh ct tt uu - r)))) B1) := by
    intro hn2 c28 c102 c109 c243 r
    induction r with
    | zero =>
      intro B1 hr hs hj
      refine ev_iload_9 256 d_mo_readItem_256 ?_
      refine ev_iflt 258 325 d_mo_readItem_258 (fun c258 => ?_) (fun c258 => ?_)
      · refine ev_goto 325 458 d_mo_readItem_325 ?_
        refine ev_vret 458 d_mo_readItem_458 rfl ?_
        exact ⟨_, _, rfl, rfl, by rw [ri_1, if_neg hn2, if_neg (fun z => z c28), if_neg c102, if_neg c109, if_pos c243]; exact ⟨by rw [Nat.sub_zero], hs, fun j hjj => hj j (by omega)⟩⟩
      · exact absurd (by decide) c258
    | succ r ih =>
      intro B1 hr hs hj
      have h8e : B1 8 = B 8 := hs.1 8 (by omega)
      have h9e : B1 9 = B 9 := hs.1 9 (by omega)
      rw [nI_pred]
      refine ev_iload_9 256 d_mo_readItem_256 ?_
      refine ev_iflt 258 325 d_mo_readItem_258 (fun c258 => ?_) (fun c258 => ?_)
      · exact absurd c258 (nI_pos (by omega))
      · refine ev_aload_0 261 d_mo_readItem_261 ?_
        refine ev_aload_0 262 d_mo_readItem_262 ?_
        refine mo_getr 263 6 8 d_mo_readItem_263 lk_28 ?_
        refine ev_bipush (6) 266 d_mo_readItem_266 (by decide) ?_
        refine ev_iload_2 268 d_mo_readItem_268 ?_
        refine ev_imul 269 d_mo_readItem_269 ?_
        refine ev_iload_9 270 d_mo_readItem_270 ?_
        refine ev_iadd 272 d_mo_readItem_272 ?_
        refine ev_topi (nI (6 * tt + r)) (by rw [n_6, pk_mul, nI_add]) ?_
        refine mo_aldn (j := 6 * tt + r) 273 6 8 d_mo_readItem_273 (by show 6 * tt + r < 192; omega) ?_
        refine ev_aload_0 274 d_mo_readItem_274 ?_
        refine mo_getr 275 6 8 d_mo_readItem_275 lk_28 ?_
        refine ev_bipush (6) 278 d_mo_readItem_278 (by decide) ?_
        refine ev_iload_3 280 d_mo_readItem_280 ?_
        refine ev_imul 281 d_mo_readItem_281 ?_
        refine ev_iload_9 282 d_mo_readItem_282 ?_
        refine ev_iadd 284 d_mo_readItem_284 ?_
        refine ev_topi (nI (6 * uu + r)) (by rw [n_6, pk_mul, nI_add]) ?_
        refine mo_aldn (j := 6 * uu + r) 285 6 8 d_mo_readItem_285 (by show 6 * uu + r < 192; omega) ?_
        refine ev_iconst_1 286 d_mo_readItem_286 ?_
        refine ev_iload_4 287 d_mo_readItem_287 ?_
        refine ev_aload_0 289 d_mo_readItem_289 ?_
        refine mo_getr 290 7 9 d_mo_readItem_290 lk_31 ?_
        refine ev_bipush (6) 293 d_mo_readItem_293 (by decide) ?_
        refine ev_iload_2 295 d_mo_readItem_295 ?_
        refine ev_imul 296 d_mo_readItem_296 ?_
        refine ev_iload_9 297 d_mo_readItem_297 ?_
        refine ev_iadd 299 d_mo_readItem_299 ?_
        refine ev_topi (nI (6 * tt + r)) (by rw [n_6, pk_mul, nI_add]) ?_
        refine mo_aldn (j := 6 * tt + r) 300 7 9 d_mo_readItem_300 (by show 6 * tt + r < 192; omega) ?_
        refine ev_iadd 301 d_mo_readItem_301 ?_
        refine ev_iload_7 302 d_mo_readItem_302 ?_
        refine ev_aload_0 304 d_mo_readItem_304 ?_
        refine mo_getr 305 7 9 d_mo_readItem_305 lk_31 ?_
        refine ev_bipush (6) 308 d_mo_readItem_308 (by decide) ?_
        refine ev_iload_3 310 d_mo_readItem_310 ?_
        refine ev_imul 311 d_mo_readItem_311 ?_
        refine ev_iload_9 312 d_mo_readItem_312 ?_
        refine ev_iadd 314 d_mo_readItem_314 ?_
        refine ev_topi (nI (6 * uu + r)) (by rw [n_6, pk_mul, nI_add]) ?_
        refine mo_aldn (j := 6 * uu + r) 315 7 9 d_mo_readItem_315 (by show 6 * uu + r < 192; omega) ?_
        refine mo_callv6 316 d_mo_readItem_316 hZ kc_184 (mt_await hZ _ _ _ _ _ _ (by rw [upd_eq]; exact vp_in_nI (by omega) (by decide))) (fun F9 B9 h9 => ?_)
        obtain ⟨e1, e2⟩ := h9
        subst F9
        subst B9
        refine ev_iinc_9 319 d_mo_readItem_319 ?_
        refine ev_goto 322 256 d_mo_readItem_322 ?_
        rw [upd_eq, nI_clamp (by omega), h8e, h9e]
        have hat := mo_aw_at B1 (h + (ty_sh ct tt uu - (r + 1))) (B 8 (6 * tt + r)) (B 8 (6 * uu + r)) 1 (p + B 9 (6 * tt + r)) (nI nn) (B 9 (6 * uu + r))
        have hsw := mo_aw_sw B1 (h + (ty_sh ct tt uu - (r + 1))) (B 8 (6 * tt + r)) (B 8 (6 * uu + r)) 1 (p + B 9 (6 * tt + r)) (nI nn) (B 9 (6 * uu + r))
        refine ev_eq (ih (mo_aw B1 (h + (ty_sh ct tt uu - (r + 1))) (B 8 (6 * tt + r)) (B 8 (6 * uu + r)) 1 (p + B 9 (6 * tt + r)) (nI nn) (B 9 (6 * uu + r))) (by omega) (hs.tr (hsw.le (by omega))) (fun j hjj => ?_)) (h1 := by rw [n_m1]) (h3 := by rw [upd_upd, nI_1, show h + (ty_sh ct tt uu - (r + 1)) + 1 = h + (ty_sh ct tt uu - r) by omega])
        by_cases e : j = ty_sh ct tt uu - (r + 1)
        · subst e
          rw [show ty_sh ct tt uu - 1 - (ty_sh ct tt uu - (r + 1)) = r by omega]
          exact hat
        · obtain ⟨a1, a2, a3, a4, a5, a6⟩ := hsw.2 (h + j) (by omega)
          obtain ⟨b1, b2, b3, b4, b5, b6⟩ := hj j (by omega)
          exact ⟨a1.trans b1, a2.trans b2, a3.trans b3, a4.trans b4, a5.trans b5, a6.trans b6⟩
  refine ev_aload_0 0 d_mo_readItem_0 ?_
  refine mo_geti 1 43 d_mo_readItem_1 lk_237 ?_
  refine ev_sipush (200) 4 d_mo_readItem_4 (by decide) ?_
  refine ev_icmpne 7 19 d_mo_readItem_7 (fun c7 => ?_) (fun c7 => ?_)
  · have hn2 := hn2e c7
    refine ev_iload_4 19 d_mo_readItem_19 ?_
    refine ev_aload_0 21 d_mo_readItem_21 ?_
    refine mo_getr 22 3 5 d_mo_readItem_22 lk_19 ?_
    refine ev_iload_2 25 d_mo_readItem_25 ?_
    refine mo_aldn (j := tt) 26 3 5 d_mo_readItem_26 (by show tt < 32; omega) ?_
    refine ev_irem 27 d_mo_readItem_27 (by exact hal) ?_
    refine ev_ifeq 28 39 d_mo_readItem_28 (fun c28 => ?_) (fun c28 => ?_)
    · refine ev_aload_0 39 d_mo_readItem_39 ?_
      refine mo_geti 40 43 d_mo_readItem_40 lk_237 ?_
      refine ev_topi (nI nn) hnn ?_
      refine ev_istore_7 43 d_mo_readItem_43 ?_
      refine ev_aload_0 45 d_mo_readItem_45 ?_
      refine ev_dup_a 46 d_mo_readItem_46 ?_
      refine mo_geti 47 43 d_mo_readItem_47 lk_237 ?_
      refine ev_iconst_1 50 d_mo_readItem_50 ?_
      refine ev_iadd 51 d_mo_readItem_51 ?_
      refine mo_puti 52 43 d_mo_readItem_52 lp_237 ?_
      rw [hnn, nI_1]
      refine ev_aload_0 55 d_mo_readItem_55 ?_
      refine mo_getr 56 32 44 d_mo_readItem_56 lk_111 ?_
      refine ev_iload_7 59 d_mo_readItem_59 ?_
      refine ev_iload_3 61 d_mo_readItem_61 ?_
      refine mo_astn (j := nn) 62 32 44 d_mo_readItem_62 (by show nn < 200; omega) ?_
      refine ev_aload_0 63 d_mo_readItem_63 ?_
      refine mo_getr 64 33 45 d_mo_readItem_64 lk_114 ?_
      refine ev_iload_7 67 d_mo_readItem_67 ?_
      refine ev_iload_4 69 d_mo_readItem_69 ?_
      refine mo_astn (j := nn) 71 33 45 d_mo_readItem_71 (by show nn < 200; omega) ?_
      refine ev_aload_0 72 d_mo_readItem_72 ?_
      refine mo_getr 73 34 46 d_mo_readItem_73 lk_117 ?_
      refine ev_iload_7 76 d_mo_readItem_76 ?_
      refine ev_iload_5 78 d_mo_readItem_78 ?_
      refine mo_astn (j := nn) 80 34 46 d_mo_readItem_80 (by show nn < 200; omega) ?_
      refine ev_aload_0 81 d_mo_readItem_81 ?_
      refine mo_getr 82 35 47 d_mo_readItem_82 lk_120 ?_
      refine ev_iload_7 85 d_mo_readItem_85 ?_
      refine ev_iload_6 87 d_mo_readItem_87 ?_
      refine mo_astn (j := nn) 89 35 47 d_mo_readItem_89 (by show nn < 200; omega) ?_
      refine ev_eq (ws' := mo_W mo_ci am kI kZ (upd F 43 (nI (nn + 1))) (ri_B0 B nn uu p ab inn)) ?_
      refine ev_aload_0 90 d_mo_readItem_90 ?_
      refine mo_getr 91 0 2 d_mo_readItem_91 lk_7 ?_
      refine ev_iload_2 94 d_mo_readItem_94 ?_
      refine mo_aldn (j := tt) 95 0 2 d_mo_readItem_95 (by show tt < 32; omega) ?_
      refine ev_topi (B 2 tt) rfl ?_
      refine ev_istore_8 96 d_mo_readItem_96 ?_
      refine ev_iload_8 98 d_mo_readItem_98 ?_
      refine ev_bipush (6) 100 d_mo_readItem_100 (by decide) ?_
      refine ev_icmpeq 102 112 d_mo_readItem_102 (fun c102 => ?_) (fun c102 => ?_)
      · refine ev_aload_0 112 d_mo_readItem_112 ?_
        refine mo_getr 113 36 48 d_mo_readItem_113 lk_123 ?_
        refine ev_iload_7 116 d_mo_readItem_116 ?_
        refine ev_aload_0 118 d_mo_readItem_118 ?_
        refine ev_iload_1 119 d_mo_readItem_119 ?_
        refine ev_iload_4 120 d_mo_readItem_120 ?_
        refine ev_iconst_2 122 d_mo_readItem_122 ?_
        refine mo_calli3 123 d_mo_readItem_123 hZ kc_240 (mt_numberG hZ ii p 2 hii (by decide)) (fun x1 F1 B8 hv1 => ?_)
        obtain ⟨hv1, e2⟩ := hv1
        subst B8
        refine mo_astn (j := nn) 126 36 48 d_mo_readItem_126 (by show nn < 200; omega) ?_
        refine ev_aload_0 127 d_mo_readItem_127 ?_
        refine mo_getr 128 37 49 d_mo_readItem_128 lk_126 ?_
        refine ev_iload_7 131 d_mo_readItem_131 ?_
        refine ev_aload_0 133 d_mo_readItem_133 ?_
        refine ev_iload_1 134 d_mo_readItem_134 ?_
        refine ev_iload_4 135 d_mo_readItem_135 ?_
        refine ev_iconst_2 137 d_mo_readItem_137 ?_
        refine ev_iadd 138 d_mo_readItem_138 ?_
        refine ev_iconst_2 139 d_mo_readItem_139 ?_
        refine mo_calli3 140 d_mo_readItem_140 hZ kc_240 (mt_numberG hZ ii (p + 2) 2 hii (by decide)) (fun x2 F2 B9 hv2 => ?_)
        obtain ⟨hv2, e2⟩ := hv2
        subst B9
        have hd := ri_hd (F := upd F 43 (nI (nn + 1))) (B := B) h0 rfl hv1 hv2
        refine mo_astn (j := nn) 143 37 49 d_mo_readItem_143 (by show nn < 200; omega) ?_
        refine ev_aload_0 144 d_mo_readItem_144 ?_
        refine mo_geti 145 54 d_mo_readItem_145 lk_224 ?_
        refine ev_ifne 148 180 d_mo_readItem_148 (fun c148 => ?_) (fun c148 => ?_)
        · refine ev_aload_0 180 d_mo_readItem_180 ?_
          refine mo_geti 181 54 d_mo_readItem_181 lk_224 ?_
          refine ev_ifne 184 458 d_mo_readItem_184 (fun c184 => ?_) (fun c184 => ?_)
          · refine ev_vret 458 d_mo_readItem_458 rfl ?_
            obtain ⟨-, q, hq, e⟩ : ¬ F2 54 = 0 ∧ ∃ q, ri_h p = some q ∧ F2 = mo_fl (upd F 43 (nI (nn + 1))) 1 q := by
              rcases hd with z | z
              · exact absurd z.1 c148
              · exact z
            subst F2
            exact ⟨_, _, rfl, rfl, by rw [ri_1, if_neg hn2, if_neg (fun z => z c28), if_pos c102, hq]; exact ri_qt2 (r := (1, q)) h0 (((ri_B0_sc B nn uu p ab inn).tr (mo_sc.up (k := 48) (by omega))).tr (mo_sc.up (k := 49) (by omega)))⟩
          · exact absurd c184 c148
        · obtain ⟨-, hri, hr1, hr2, e, ex1, ex2⟩ : F2 54 = 0 ∧ ri_h p = none ∧ mo_rg p 2 = none ∧ mo_rg (p + 2) 2 = none ∧ F2 = upd F 43 (nI (nn + 1)) ∧ x1 = mo_nb (B 13) ii p 2 ∧ x2 = mo_nb (B 13) ii (p + 2) 2 := by
            rcases hd with z | z
            · exact z
            · exact absurd c148 z.1
          subst F2
          obtain ⟨fr, hfr2, hfr⟩ := mo_nb2 h8 hii hr1
          obtain ⟨mn, hmn2, hmn⟩ := mo_nb2 h8 hii hr2
          rw [hfr] at ex1
          rw [hmn] at ex2
          subst ex1
          subst ex2
          refine ev_iload_8 151 d_mo_readItem_151 ?_
          refine ev_bipush (6) 153 d_mo_readItem_153 (by decide) ?_
          refine ev_icmpne 155 180 d_mo_readItem_155 (fun c155 => ?_) (fun c155 => ?_)
          · exact absurd c102 c155
          · refine ev_aload_0 158 d_mo_readItem_158 ?_
            refine ev_iload_1 159 d_mo_readItem_159 ?_
            refine ev_aload_0 160 d_mo_readItem_160 ?_
            refine mo_getr 161 36 48 d_mo_readItem_161 lk_123 ?_
            refine ev_iload_7 164 d_mo_readItem_164 ?_
            refine mo_aldn (j := nn) 166 36 48 d_mo_readItem_166 (by show nn < 200; omega) ?_
            refine ev_topi (nI fr) (by show upd _ nn (nI fr) nn = nI fr; exact upd_eq) ?_
            refine ev_aload_0 167 d_mo_readItem_167 ?_
            refine mo_getr 168 37 49 d_mo_readItem_168 lk_126 ?_
            refine ev_iload_7 171 d_mo_readItem_171 ?_
            refine mo_aldn (j := nn) 173 37 49 d_mo_readItem_173 (by show nn < 200; omega) ?_
            refine ev_topi (nI mn) (by show upd _ nn (nI mn) nn = nI mn; exact upd_eq) ?_
            refine mo_callv3 174 d_mo_readItem_174 hZ kc_244 (mt_readText (F := upd F 43 (nI (nn + 1))) hZ ii fr mn hii hfr2 hmn2 h0) (fun F9 B9 h9 => ?_)
            obtain ⟨e1, e2⟩ := h9
            replace e1 : F9 = mo_fo (upd F 43 (nI (nn + 1))) (tx_r (B 13) ii fr mn (mn + 1) 0) := e1
            subst F9
            subst B9
            refine ev_goto 177 458 d_mo_readItem_177 ?_
            refine ev_vret 458 d_mo_readItem_458 rfl ?_
            cases hx : tx_r (B 13) ii fr mn (mn + 1) 0 with
            | none => exact ⟨_, _, rfl, rfl, by
                rw [ri_1, if_neg hn2, if_neg (fun z => z c28), if_pos c102, hri, hfr, hmn, nI_clamp (by omega), nI_clamp (by omega), hx]
                have := ri_q0 (B := B) (B' := ri_B1 B ii nn uu p ab inn) (nn := nn) (e := fun _ => (0, 0, 0, 0, 0, 0)) hh
                rw [ri_B1, hfr, hmn] at this ⊢
                exact this⟩
            | some r => exact ⟨_, _, rfl, rfl, by
                rw [ri_1, if_neg hn2, if_neg (fun z => z c28), if_pos c102, hri, hfr, hmn, nI_clamp (by omega), nI_clamp (by omega), hx]
                exact ri_qt2 h0 (((ri_B0_sc B nn uu p ab inn).tr (mo_sc.up (k := 48) (by omega))).tr (mo_sc.up (k := 49) (by omega)))⟩
      · refine ev_iload_8 105 d_mo_readItem_105 ?_
        refine ev_bipush (8) 107 d_mo_readItem_107 (by decide) ?_
        refine ev_icmpne 109 239 d_mo_readItem_109 (fun c109 => ?_) (fun c109 => ?_)
        · refine ev_iload_8 239 d_mo_readItem_239 ?_
          refine ev_bipush (9) 241 d_mo_readItem_241 (by decide) ?_
          refine ev_icmpne 243 328 d_mo_readItem_243 (fun c243 => ?_) (fun c243 => ?_)
          · refine ev_iload_8 328 d_mo_readItem_328 ?_
            refine ev_bipush (10) 330 d_mo_readItem_330 (by decide) ?_
            refine ev_icmpne 332 430 d_mo_readItem_332 (fun c332 => ?_) (fun c332 => ?_)
            · refine ev_iload_8 430 d_mo_readItem_430 ?_
              refine ev_bipush (10) 432 d_mo_readItem_432 (by decide) ?_
              refine ev_icmple 434 450 d_mo_readItem_434 (fun c434 => ?_) (fun c434 => ?_)
              · refine ev_aload_0 450 d_mo_readItem_450 ?_
                refine ev_iload_1 451 d_mo_readItem_451 ?_
                refine ev_iload_2 452 d_mo_readItem_452 ?_
                refine ev_iload_4 453 d_mo_readItem_453 ?_
                obtain ⟨sz, hsz, hs1, hs8, hz5⟩ := hpl c102 c109 c243 c332 c434
                refine mo_callv3 455 d_mo_readItem_455 hZ kc_251 (mt_readPlain (F := upd F 43 (nI (nn + 1))) (B := ri_B0 B nn uu p ab inn) hZ ii tt p hii (by omega) h0 sz hsz hs1 hs8 hz5) (fun F9 B9 h9 => ?_)
                obtain ⟨e1, e2⟩ := h9
                subst F9
                subst B9
                refine ev_vret 458 d_mo_readItem_458 rfl ?_
                rw [show mo_rp (ri_B0 B nn uu p ab inn) ii tt p = mo_rp B ii tt p from rfl]
                cases hx : mo_rp B ii tt p with
                | none => exact ⟨_, _, rfl, rfl, by rw [ri_1, if_neg hn2, if_neg (fun z => z c28), if_neg c102, if_neg c109, if_neg c243, if_neg c332, if_neg (fun z => z c434), hx]; exact ri_q0 hh⟩
                | some r => exact ⟨_, _, rfl, rfl, by rw [ri_1, if_neg hn2, if_neg (fun z => z c28), if_neg c102, if_neg c109, if_neg c243, if_neg c332, if_neg (fun z => z c434), hx]; exact ri_qt2 h0 (ri_B0_sc B nn uu p ab inn)⟩
              · refine ev_aload_0 437 d_mo_readItem_437 ?_
                refine ev_iload_1 438 d_mo_readItem_438 ?_
                refine ev_iload_2 439 d_mo_readItem_439 ?_
                refine ev_iload_4 440 d_mo_readItem_440 ?_
                refine ev_iload_7 442 d_mo_readItem_442 ?_
                refine mo_callv4 444 d_mo_readItem_444 hZ kc_247 (mt_readHandle (F := upd F 43 (nI (nn + 1))) (B := ri_B0 B nn uu p ab inn) hZ ii tt p nn hii (by omega) (by omega) h0 hG) (fun F9 B9 h9 => ?_)
                obtain ⟨e1, e2⟩ := h9
                subst F9
                subst B9
                refine ev_goto 447 458 d_mo_readItem_447 ?_
                refine ev_vret 458 d_mo_readItem_458 rfl ?_
                cases hx : (mo_rh (ri_B0 B nn uu p ab inn) ii tt p nn).1 with
                | none => exact ⟨_, _, rfl, rfl, by rw [ri_1, if_neg hn2, if_neg (fun z => z c28), if_neg c102, if_neg c109, if_neg c243, if_neg c332, if_pos c434, hx]; exact ri_q0 hh⟩
                | some r => exact ⟨_, _, rfl, rfl, by rw [ri_1, if_neg hn2, if_neg (fun z => z c28), if_neg c102, if_neg c109, if_neg c243, if_neg c332, if_pos c434, hx]; exact ri_qt2 h0 ((ri_B0_sc B nn uu p ab inn).tr (mo_rh_sc _ _ _ _ _))⟩
            · refine ev_aload_0 335 d_mo_readItem_335 ?_
              refine ev_iload_1 336 d_mo_readItem_336 ?_
              refine ev_iload_4 337 d_mo_readItem_337 ?_
              refine mo_calli2 339 d_mo_readItem_339 hZ kc_234 (mt_byteAt hZ (nI ii) p (mo_bb hii p)) (fun y F2 B9 h9 => ?_)
              obtain ⟨hb, e2⟩ := h9
              subst B9
              replace hb := mo_bp0 (F := upd F 43 (nI (nn + 1))) (B := B) h0 hb
              refine ev_istore_9 342 d_mo_readItem_342 ?_
              refine ev_iload_9 344 d_mo_readItem_344 ?_
              refine ev_aload_0 346 d_mo_readItem_346 ?_
              refine mo_getr 347 5 7 d_mo_readItem_347 lk_25 ?_
              refine ev_iload_2 350 d_mo_readItem_350 ?_
              refine mo_aldn (j := tt) 351 5 7 d_mo_readItem_351 (by show tt < 32; omega) ?_
              refine ev_icmplt 352 362 d_mo_readItem_352 (fun c352 => ?_) (fun c352 => ?_)
              · replace c352 : y < B 7 tt := c352
                refine ev_aload_0 362 d_mo_readItem_362 ?_
                refine mo_geti 363 54 d_mo_readItem_363 lk_224 ?_
                refine ev_ifne 366 427 d_mo_readItem_366 (fun c366 => ?_) (fun c366 => ?_)
                · refine ev_goto 427 458 d_mo_readItem_427 ?_
                  refine ev_vret 458 d_mo_readItem_458 rfl ?_
                  obtain ⟨hp, e⟩ : (p < 0 ∨ 255 < p) ∧ F2 = mo_fl (upd F 43 (nI (nn + 1))) 1 p := by
                    rcases hb with ⟨a, -, b, -⟩ | ⟨-, -, e, -⟩
                    · exact ⟨a, b⟩
                    · subst F2; exact absurd h0 c366
                  subst F2
                  exact ⟨_, _, rfl, rfl, by rw [ri_1, if_neg hn2, if_neg (fun z => z c28), if_neg c102, if_neg c109, if_neg c243, if_pos c332, if_pos hp]; exact ri_qt2 (r := (1, p)) h0 (ri_B0_sc B nn uu p ab inn)⟩
                · obtain ⟨hp, ey, e⟩ : ¬ (p < 0 ∨ 255 < p) ∧ y = B 13 (256 * nI ii + p).toNatClampNeg ∧ F2 = upd F 43 (nI (nn + 1)) := by
                    rcases hb with ⟨-, -, e, z⟩ | ⟨a, b, c, -⟩
                    · exact absurd (by rw [show F2 54 = 0 from c366]; decide) z
                    · exact ⟨a, b, c⟩
                  subst F2
                  obtain ⟨b, hb2, hby⟩ := mo_b8_at h8 hii hp
                  rw [hby] at ey
                  subst ey
                  have hc6 := (hW.2.1 tt htt).2.1
                  have hbl := n_lt b (ct tt) c352 rfl (hW.2.1 tt htt).1
                  refine ev_aload_0 369 d_mo_readItem_369 ?_
                  refine ev_aload_0 370 d_mo_readItem_370 ?_
                  refine mo_getr 371 6 8 d_mo_readItem_371 lk_28 ?_
                  refine ev_bipush (6) 374 d_mo_readItem_374 (by decide) ?_
                  refine ev_iload_2 376 d_mo_readItem_376 ?_
                  refine ev_imul 377 d_mo_readItem_377 ?_
                  refine ev_iload_9 378 d_mo_readItem_378 ?_
                  refine ev_iadd 380 d_mo_readItem_380 ?_
                  refine ev_topi (nI (6 * tt + b)) (by rw [n_6, pk_mul, nI_add]) ?_
                  refine mo_aldn (j := 6 * tt + b) 381 6 8 d_mo_readItem_381 (by show 6 * tt + b < 192; omega) ?_
                  refine ev_aload_0 382 d_mo_readItem_382 ?_
                  refine mo_getr 383 6 8 d_mo_readItem_383 lk_28 ?_
                  refine ev_bipush (6) 386 d_mo_readItem_386 (by decide) ?_
                  refine ev_iload_3 388 d_mo_readItem_388 ?_
                  refine ev_imul 389 d_mo_readItem_389 ?_
                  refine ev_iload_9 390 d_mo_readItem_390 ?_
                  refine ev_iadd 392 d_mo_readItem_392 ?_
                  refine ev_topi (nI (6 * uu + b)) (by rw [n_6, pk_mul, nI_add]) ?_
                  refine mo_aldn (j := 6 * uu + b) 393 6 8 d_mo_readItem_393 (by show 6 * uu + b < 192; omega) ?_
                  refine ev_iconst_1 394 d_mo_readItem_394 ?_
                  refine ev_iload_4 395 d_mo_readItem_395 ?_
                  refine ev_aload_0 397 d_mo_readItem_397 ?_
                  refine mo_getr 398 7 9 d_mo_readItem_398 lk_31 ?_
                  refine ev_bipush (6) 401 d_mo_readItem_401 (by decide) ?_
                  refine ev_iload_2 403 d_mo_readItem_403 ?_
                  refine ev_imul 404 d_mo_readItem_404 ?_
                  refine ev_iload_9 405 d_mo_readItem_405 ?_
                  refine ev_iadd 407 d_mo_readItem_407 ?_
                  refine ev_topi (nI (6 * tt + b)) (by rw [n_6, pk_mul, nI_add]) ?_
                  refine mo_aldn (j := 6 * tt + b) 408 7 9 d_mo_readItem_408 (by show 6 * tt + b < 192; omega) ?_
                  refine ev_iadd 409 d_mo_readItem_409 ?_
                  refine ev_iload_7 410 d_mo_readItem_410 ?_
                  refine ev_aload_0 412 d_mo_readItem_412 ?_
                  refine mo_getr 413 7 9 d_mo_readItem_413 lk_31 ?_
                  refine ev_bipush (6) 416 d_mo_readItem_416 (by decide) ?_
                  refine ev_iload_3 418 d_mo_readItem_418 ?_
                  refine ev_imul 419 d_mo_readItem_419 ?_
                  refine ev_iload_9 420 d_mo_readItem_420 ?_
                  refine ev_iadd 422 d_mo_readItem_422 ?_
                  refine ev_topi (nI (6 * uu + b)) (by rw [n_6, pk_mul, nI_add]) ?_
                  refine mo_aldn (j := 6 * uu + b) 423 7 9 d_mo_readItem_423 (by show 6 * uu + b < 192; omega) ?_
                  refine mo_callv6 424 d_mo_readItem_424 hZ kc_184 (mt_await hZ _ _ _ _ _ _ (by show vp_in (F 36) 64; rw [hh]; exact vp_in_nI (by omega) (by decide))) (fun F9 B9 h9 => ?_)
                  obtain ⟨e1, e2⟩ := h9
                  subst F9
                  subst B9
                  refine ev_goto 427 458 d_mo_readItem_427 ?_
                  refine ev_vret 458 d_mo_readItem_458 rfl ?_
                  exact ⟨_, _, rfl, rfl, by
                    rw [ri_1, if_neg hn2, if_neg (fun z => z c28), if_neg c102, if_neg c109, if_neg c243, if_pos c332, if_neg hp, if_neg (fun z => z (hby ▸ c352)), hby, nI_clamp (by omega)]
                    have hsw := mo_aw_sw (ri_B0 B nn uu p ab inn) h (B 8 (6 * tt + b)) (B 8 (6 * uu + b)) 1 (p + B 9 (6 * tt + b)) (nI nn) (B 9 (6 * uu + b))
                    have hat := mo_aw_at (ri_B0 B nn uu p ab inn) h (B 8 (6 * tt + b)) (B 8 (6 * uu + b)) 1 (p + B 9 (6 * tt + b)) (nI nn) (B 9 (6 * uu + b))
                    show _ = _ ∧ _
                    rw [show (upd F 43 (nI (nn + 1))) 36 = nI h from hh, nI_clamp (by omega), nI_1]
                    refine ⟨rfl, hsw, fun j hj => ?_⟩
                    obtain rfl : j = 0 := Nat.lt_one_iff.mp hj
                    exact hat⟩
              · replace c352 : ¬ y < B 7 tt := c352
                refine ev_aload_0 355 d_mo_readItem_355 ?_
                refine ev_iconst_2 356 d_mo_readItem_356 ?_
                refine ev_iload_4 357 d_mo_readItem_357 ?_
                refine mo_callv2 359 d_mo_readItem_359 hZ kc_230 (mt_fails hZ _ _) (fun F9 B9 h => ?_)
                obtain ⟨e1, e2⟩ := h
                subst F9
                subst B9
                refine ev_aload_0 362 d_mo_readItem_362 ?_
                refine mo_geti 363 54 d_mo_readItem_363 lk_224 ?_
                refine ev_ifne 366 427 d_mo_readItem_366 (fun c366 => ?_) (fun c366 => ?_)
                · refine ev_goto 427 458 d_mo_readItem_427 ?_
                  refine ev_vret 458 d_mo_readItem_458 rfl ?_
                  rcases hb with ⟨a, -, e, -⟩ | ⟨a, ey, e, -⟩
                  · subst F2
                    rw [mo_fl2 (by rw [mo_fl1 (show (upd F 43 (nI (nn + 1))) 54 = 0 from h0)]; decide)]
                    exact ⟨_, _, rfl, rfl, by rw [ri_1, if_neg hn2, if_neg (fun z => z c28), if_neg c102, if_neg c109, if_neg c243, if_pos c332, if_pos a]; exact ri_qt2 (r := (1, p)) h0 (ri_B0_sc B nn uu p ab inn)⟩
                  · subst F2; subst ey
                    exact ⟨_, _, rfl, rfl, by rw [ri_1, if_neg hn2, if_neg (fun z => z c28), if_neg c102, if_neg c109, if_neg c243, if_pos c332, if_neg a, if_pos c352]; exact ri_qt2 (r := (2, p)) h0 (ri_B0_sc B nn uu p ab inn)⟩
                · rcases hb with ⟨-, -, e, z⟩ | ⟨-, -, e, -⟩
                  · subst F2
                    rw [mo_fl2 (by rw [mo_fl1 (show (upd F 43 (nI (nn + 1))) 54 = 0 from h0)]; decide)] at c366
                    rw [mo_fl1 (show (upd F 43 (nI (nn + 1))) 54 = 0 from h0)] at c366
                    exact absurd c366 (by decide)
                  · subst F2
                    rw [mo_fl1 (show (upd F 43 (nI (nn + 1))) 54 = 0 from h0)] at c366
                    exact absurd c366 (by decide)
          · refine ev_aload_0 246 d_mo_readItem_246 ?_
            refine ev_iload_2 247 d_mo_readItem_247 ?_
            refine ev_iload_3 248 d_mo_readItem_248 ?_
            refine mo_calli2 249 d_mo_readItem_249 hZ kc_191 (mt_shared hZ (nI tt) (nI uu) (vp_in_nI (by omega) (by decide)) (vp_in_nI (by omega) (by decide))) (fun z F9 B9 h9 => ?_)
            obtain ⟨hz, e1, e2⟩ := h9
            subst F9
            subst B9
            rw [nI_clamp (by omega), nI_clamp (by omega)] at hz
            replace hz : z = nI (ty_sh ct tt uu) := hz.trans (ty_sh_eq (B := B) (hW.2.1 tt htt).1 (hW.2.1 uu huu).1 (hW.2.1 tt htt).2.1 (hW.2.1 uu huu).2.1)
            subst hz
            refine ev_iconst_1 252 d_mo_readItem_252 ?_
            refine ev_isub 253 d_mo_readItem_253 ?_
            refine ev_istore_9 254 d_mo_readItem_254 ?_
            refine ev_eq (PU hn2 c28 c102 c109 c243 (ty_sh ct tt uu) (ri_B0 B nn uu p ab inn) (Nat.le_refl _) (mo_sw.rf _ _) (fun j hj => absurd hj (by omega))) (h3 := by rw [Nat.sub_self, upd_id (show (upd F 43 (nI (nn + 1))) 36 = nI (h + 0) from hh)])
        · refine ev_aload_0 112 d_mo_readItem_112 ?_
          refine mo_getr 113 36 48 d_mo_readItem_113 lk_123 ?_
          refine ev_iload_7 116 d_mo_readItem_116 ?_
          refine ev_aload_0 118 d_mo_readItem_118 ?_
          refine ev_iload_1 119 d_mo_readItem_119 ?_
          refine ev_iload_4 120 d_mo_readItem_120 ?_
          refine ev_iconst_2 122 d_mo_readItem_122 ?_
          refine mo_calli3 123 d_mo_readItem_123 hZ kc_240 (mt_numberG hZ ii p 2 hii (by decide)) (fun x1 F1 B8 hv1 => ?_)
          obtain ⟨hv1, e2⟩ := hv1
          subst B8
          refine mo_astn (j := nn) 126 36 48 d_mo_readItem_126 (by show nn < 200; omega) ?_
          refine ev_aload_0 127 d_mo_readItem_127 ?_
          refine mo_getr 128 37 49 d_mo_readItem_128 lk_126 ?_
          refine ev_iload_7 131 d_mo_readItem_131 ?_
          refine ev_aload_0 133 d_mo_readItem_133 ?_
          refine ev_iload_1 134 d_mo_readItem_134 ?_
          refine ev_iload_4 135 d_mo_readItem_135 ?_
          refine ev_iconst_2 137 d_mo_readItem_137 ?_
          refine ev_iadd 138 d_mo_readItem_138 ?_
          refine ev_iconst_2 139 d_mo_readItem_139 ?_
          refine mo_calli3 140 d_mo_readItem_140 hZ kc_240 (mt_numberG hZ ii (p + 2) 2 hii (by decide)) (fun x2 F2 B9 hv2 => ?_)
          obtain ⟨hv2, e2⟩ := hv2
          subst B9
          have hd := ri_hd (F := upd F 43 (nI (nn + 1))) (B := B) h0 rfl hv1 hv2
          refine mo_astn (j := nn) 143 37 49 d_mo_readItem_143 (by show nn < 200; omega) ?_
          refine ev_aload_0 144 d_mo_readItem_144 ?_
          refine mo_geti 145 54 d_mo_readItem_145 lk_224 ?_
          refine ev_ifne 148 180 d_mo_readItem_148 (fun c148 => ?_) (fun c148 => ?_)
          · refine ev_aload_0 180 d_mo_readItem_180 ?_
            refine mo_geti 181 54 d_mo_readItem_181 lk_224 ?_
            refine ev_ifne 184 458 d_mo_readItem_184 (fun c184 => ?_) (fun c184 => ?_)
            · refine ev_vret 458 d_mo_readItem_458 rfl ?_
              obtain ⟨-, q, hq, e⟩ : ¬ F2 54 = 0 ∧ ∃ q, ri_h p = some q ∧ F2 = mo_fl (upd F 43 (nI (nn + 1))) 1 q := by
                rcases hd with z | z
                · exact absurd z.1 c148
                · exact z
              subst F2
              exact ⟨_, _, rfl, rfl, by rw [ri_1, if_neg hn2, if_neg (fun z => z c28), if_neg c102, if_pos c109, hq]; exact ri_qt2 (r := (1, q)) h0 (((ri_B0_sc B nn uu p ab inn).tr (mo_sc.up (k := 48) (by omega))).tr (mo_sc.up (k := 49) (by omega)))⟩
            · exact absurd c184 c148
          · obtain ⟨-, hri, hr1, hr2, e, ex1, ex2⟩ : F2 54 = 0 ∧ ri_h p = none ∧ mo_rg p 2 = none ∧ mo_rg (p + 2) 2 = none ∧ F2 = upd F 43 (nI (nn + 1)) ∧ x1 = mo_nb (B 13) ii p 2 ∧ x2 = mo_nb (B 13) ii (p + 2) 2 := by
              rcases hd with z | z
              · exact z
              · exact absurd c148 z.1
            subst F2
            obtain ⟨fr, hfr2, hfr⟩ := mo_nb2 h8 hii hr1
            obtain ⟨mn, hmn2, hmn⟩ := mo_nb2 h8 hii hr2
            rw [hfr] at ex1
            rw [hmn] at ex2
            subst ex1
            subst ex2
            refine ev_iload_8 151 d_mo_readItem_151 ?_
            refine ev_bipush (6) 153 d_mo_readItem_153 (by decide) ?_
            refine ev_icmpne 155 180 d_mo_readItem_155 (fun c155 => ?_) (fun c155 => ?_)
            · refine ev_aload_0 180 d_mo_readItem_180 ?_
              refine mo_geti 181 54 d_mo_readItem_181 lk_224 ?_
              refine ev_ifne 184 458 d_mo_readItem_184 (fun c184 => ?_) (fun c184 => ?_)
              · exact absurd h0 c184
              · refine ev_aload_0 187 d_mo_readItem_187 ?_
                refine mo_getr 188 37 49 d_mo_readItem_188 lk_126 ?_
                refine ev_iload_7 191 d_mo_readItem_191 ?_
                refine mo_aldn (j := nn) 193 37 49 d_mo_readItem_193 (by show nn < 200; omega) ?_
                refine ev_topi (nI mn) (by show upd _ nn (nI mn) nn = nI mn; exact upd_eq) ?_
                refine ev_ifle 194 458 d_mo_readItem_194 (fun c194 => ?_) (fun c194 => ?_)
                · refine ev_vret 458 d_mo_readItem_458 rfl ?_
                  exact ⟨_, _, rfl, rfl, by
                    rw [ri_1, if_neg hn2, if_neg (fun z => z c28), if_neg c102, if_pos c109, hri]
                    dsimp only
                    rw [if_pos (by rw [hmn]; exact c194)]
                    have := ri_q0 (B := B) (B' := ri_B1 B ii nn uu p ab inn) (nn := nn) (e := fun _ => (0, 0, 0, 0, 0, 0)) hh
                    rw [ri_B1, hfr, hmn] at this ⊢
                    exact this⟩
                · refine ev_aload_0 197 d_mo_readItem_197 ?_
                  refine ev_aload_0 198 d_mo_readItem_198 ?_
                  refine mo_getr 199 6 8 d_mo_readItem_199 lk_28 ?_
                  refine ev_bipush (6) 202 d_mo_readItem_202 (by decide) ?_
                  refine ev_iload_2 204 d_mo_readItem_204 ?_
                  refine ev_imul 205 d_mo_readItem_205 ?_
                  refine ev_topi (nI (6 * tt)) (by rw [n_6, pk_mul]) ?_
                  refine mo_aldn (j := 6 * tt) 206 6 8 d_mo_readItem_206 (by show 6 * tt < 192; omega) ?_
                  refine ev_aload_0 207 d_mo_readItem_207 ?_
                  refine mo_getr 208 6 8 d_mo_readItem_208 lk_28 ?_
                  refine ev_bipush (6) 211 d_mo_readItem_211 (by decide) ?_
                  refine ev_iload_3 213 d_mo_readItem_213 ?_
                  refine ev_imul 214 d_mo_readItem_214 ?_
                  refine ev_topi (nI (6 * uu)) (by rw [n_6, pk_mul]) ?_
                  refine mo_aldn (j := 6 * uu) 215 6 8 d_mo_readItem_215 (by show 6 * uu < 192; omega) ?_
                  refine ev_aload_0 216 d_mo_readItem_216 ?_
                  refine mo_getr 217 37 49 d_mo_readItem_217 lk_126 ?_
                  refine ev_iload_7 220 d_mo_readItem_220 ?_
                  refine mo_aldn (j := nn) 222 37 49 d_mo_readItem_222 (by show nn < 200; omega) ?_
                  refine ev_topi (nI mn) (by show upd _ nn (nI mn) nn = nI mn; exact upd_eq) ?_
                  refine ev_aload_0 223 d_mo_readItem_223 ?_
                  refine mo_getr 224 36 48 d_mo_readItem_224 lk_123 ?_
                  refine ev_iload_7 227 d_mo_readItem_227 ?_
                  refine mo_aldn (j := nn) 229 36 48 d_mo_readItem_229 (by show nn < 200; omega) ?_
                  refine ev_topi (nI fr) (by show upd _ nn (nI fr) nn = nI fr; exact upd_eq) ?_
                  refine ev_iload_7 230 d_mo_readItem_230 ?_
                  refine ev_iconst_0 232 d_mo_readItem_232 ?_
                  refine mo_callv6 233 d_mo_readItem_233 hZ kc_184 (mt_await hZ _ _ _ _ _ _ (by show vp_in (F 36) 64; rw [hh]; exact vp_in_nI (by omega) (by decide))) (fun F9 B9 h9 => ?_)
                  obtain ⟨e1, e2⟩ := h9
                  subst F9
                  subst B9
                  refine ev_goto 236 458 d_mo_readItem_236 ?_
                  refine ev_vret 458 d_mo_readItem_458 rfl ?_
                  exact ⟨_, _, rfl, rfl, by
                    rw [ri_1, if_neg hn2, if_neg (fun z => z c28), if_neg c102, if_pos c109, hri]
                    dsimp only
                    rw [if_neg (by rw [hmn]; exact c194)]
                    have hsw := mo_aw_sw (ri_B1 B ii nn uu p ab inn) h (B 8 (6 * tt)) (B 8 (6 * uu)) (nI mn) (nI fr) (nI nn) 0
                    have hat := mo_aw_at (ri_B1 B ii nn uu p ab inn) h (B 8 (6 * tt)) (B 8 (6 * uu)) (nI mn) (nI fr) (nI nn) 0
                    rw [hfr, hmn]
                    show _ = _ ∧ _
                    rw [show (upd F 43 (nI (nn + 1))) 36 = nI h from hh, nI_clamp (by omega), nI_1]
                    rw [ri_B1, hfr, hmn] at hsw hat ⊢
                    refine ⟨rfl, hsw, fun j hj => ?_⟩
                    obtain rfl : j = 0 := Nat.lt_one_iff.mp hj
                    exact hat⟩
            · exact absurd c155 c102
    · refine ev_aload_0 31 d_mo_readItem_31 ?_
      refine ev_iconst_5 32 d_mo_readItem_32 ?_
      refine ev_iload_4 33 d_mo_readItem_33 ?_
      refine mo_callv2 35 d_mo_readItem_35 hZ kc_230 (mt_fails hZ _ _) (fun F9 B9 h => ?_)
      obtain ⟨e1, e2⟩ := h
      subst F9
      subst B9
      refine ev_vret 38 d_mo_readItem_38 rfl ?_
      exact ⟨_, _, rfl, rfl, by rw [ri_1, if_neg hn2, if_pos c28]; exact ri_qt h0 (mo_sc.rf _)⟩
  · refine ev_aload_0 10 d_mo_readItem_10 ?_
    refine ev_bipush (10) 11 d_mo_readItem_11 (by decide) ?_
    refine ev_iload_4 13 d_mo_readItem_13 ?_
    refine mo_callv2 15 d_mo_readItem_15 hZ kc_230 (mt_fails hZ _ _) (fun F9 B9 h => ?_)
    obtain ⟨e1, e2⟩ := h
    subst F9
    subst B9
    refine ev_vret 18 d_mo_readItem_18 rfl ?_
    exact ⟨_, _, rfl, rfl, by rw [ri_1, if_pos (n_eq nn 200 c7 hnn)]; exact ri_qt h0 (mo_sc.rf _)⟩
end
section
/-! reading a whole value -/
/-- the tables agree but for what waits -/
def mo_ag (B B' : Nat → Nat → Int32) : Prop := ∀ k, k < 37 ∨ 42 < k → B' k = B k
theorem mo_ag.rf (B : Nat → Nat → Int32) : mo_ag B B := fun _ _ => rfl
theorem mo_ag.tr {B B' B'' : Nat → Nat → Int32} (a : mo_ag B B') (b : mo_ag B' B'') : mo_ag B B'' := fun k h => (b k h).trans (a k h)
theorem mo_ag.up {B B' : Nat → Nat → Int32} (a : mo_ag B B') {k : Nat} {g g' : Nat → Int32} (h : g' = g) : mo_ag (va_up B k g) (va_up B' k g') := by
  intro j hj
  by_cases e : j = k
  · subst e; rw [va_up_self, va_up_self, h]
  · rw [va_up_ne _ _ e, va_up_ne _ _ e, a j hj]
theorem mo_ag.ln {B B' : Nat → Nat → Int32} (a : mo_ag B B') (x p : Int32) (n : Nat) : mo_ln B' x p n = mo_ln B x p n := mo_ln_c (a 16 (by omega)) (a 18 (by omega)) (a 19 (by omega)) x p n
theorem mo_ag.rh {B B' : Nat → Nat → Int32} (a : mo_ag B B') (ii tt : Nat) (p : Int32) (it : Nat) : (mo_rh B' ii tt p it).1 = (mo_rh B ii tt p it).1 ∧ mo_ag (mo_rh B ii tt p it).2 (mo_rh B' ii tt p it).2 := by
  unfold mo_rh
  rw [a 13 (by omega), a 16 (by omega), a 20 (by omega), a 23 (by omega), a 17 (by omega), a 3 (by omega), a 2 (by omega), a 18 (by omega), a 21 (by omega), a 48 (by omega), a.ln]
  split
  · exact ⟨rfl, a⟩
  · split
    · exact ⟨rfl, a⟩
    · split
      · exact ⟨rfl, a.up rfl⟩
      · split
        · exact ⟨rfl, (a.up rfl).up rfl⟩
        · split
          · exact ⟨rfl, a.up rfl⟩
          · split
            · exact ⟨rfl, a.up rfl⟩
            · exact ⟨rfl, (a.up rfl).up rfl⟩
theorem mo_ag.B0 {B B' : Nat → Nat → Int32} (a : mo_ag B B') (nn uu : Nat) (p ab inn : Int32) : mo_ag (ri_B0 B nn uu p ab inn) (ri_B0 B' nn uu p ab inn) := by
  unfold ri_B0
  rw [a 44 (by omega), a 45 (by omega), a 46 (by omega), a 47 (by omega)]
  exact (((a.up rfl).up rfl).up rfl).up rfl
theorem mo_ag.B1 {B B' : Nat → Nat → Int32} (a : mo_ag B B') (ii nn uu : Nat) (p ab inn : Int32) : mo_ag (ri_B1 B ii nn uu p ab inn) (ri_B1 B' ii nn uu p ab inn) := by
  unfold ri_B1
  rw [a 48 (by omega), a 49 (by omega), a 13 (by omega)]
  exact ((a.B0 nn uu p ab inn).up rfl).up rfl
theorem mo_ag.rp {B B' : Nat → Nat → Int32} (a : mo_ag B B') (ii tt : Nat) (p : Int32) : mo_rp B' ii tt p = mo_rp B ii tt p := by
  unfold mo_rp
  rw [a 4 (by omega), a 2 (by omega), a 13 (by omega), a 3 (by omega)]
/-- what is read doesn't hang on what waits -/
def ri_ag (R R' : ri_T) : Prop := match R with
  | .inl x => R' = .inl x
  | .inr q => ∃ B', R' = .inr (B', q.2.1, q.2.2) ∧ mo_ag q.1 B'
theorem mo_ag.ri {B B' : Nat → Nat → Int32} (a : mo_ag B B') (ct : Nat → Nat) (ii tt uu : Nat) (p ab inn : Int32) (nn : Nat) : ri_ag (ri_1 B ct ii tt uu p ab inn nn) (ri_1 B' ct ii tt uu p ab inn nn) := by
  have hrh := (a.B0 nn uu p ab inn).rh ii tt p nn
  have he : ∀ k, ri_e B' tt uu p nn k = ri_e B tt uu p nn k := fun k => by unfold ri_e; rw [a 8 (by omega), a 9 (by omega)]
  unfold ri_1
  rw [a 5 (by omega), a 2 (by omega), a 13 (by omega), a 8 (by omega), a 7 (by omega), a.rp, hrh.1]
  simp only [he]
  split
  · exact rfl
  · split
    · exact rfl
    · split
      · cases ri_h p with
        | some q => exact rfl
        | none =>
          dsimp only
          split
          · exact rfl
          · exact ⟨_, rfl, a.B1 ii nn uu p ab inn⟩
      · split
        · cases ri_h p with
          | some q => exact rfl
          | none =>
            dsimp only
            split
            · exact ⟨_, rfl, a.B1 ii nn uu p ab inn⟩
            · exact ⟨_, rfl, a.B1 ii nn uu p ab inn⟩
        · split
          · exact ⟨_, rfl, a.B0 nn uu p ab inn⟩
          · split
            · split
              · exact rfl
              · split
                · exact rfl
                · exact ⟨_, rfl, a.B0 nn uu p ab inn⟩
            · split
              · split
                · exact rfl
                · exact ⟨_, rfl, hrh.2⟩
              · split
                · exact rfl
                · exact ⟨_, rfl, a.B0 nn uu p ab inn⟩
abbrev rd_R : Type := (Int32 × Int32) ⊕ (Nat × (Nat → Nat → Int32))
/-- some values behind one another -/
def rd_m (f : Int32 → Int32 → Nat → (Nat → Nat → Int32) → rd_R) (sz su : Int32) : Nat → Int32 → Int32 → Nat → (Nat → Nat → Int32) → rd_R
  | 0, _, _, n, B => .inr (n, B)
  | r + 1, p, inn, n, B => match f p inn n B with
    | .inl x => .inl x
    | .inr q => rd_m f sz su r (p + sz) (inn + su) q.1 q.2
/-- what waits, the latest first -/
def rd_s (g : ri_E → Nat → (Nat → Nat → Int32) → rd_R) (e : Nat → ri_E) : Nat → Nat → (Nat → Nat → Int32) → rd_R
  | 0, n, B => .inr (n, B)
  | r + 1, n, B => match g (e r) n B with
    | .inl x => .inl x
    | .inr q => rd_s g e r q.1 q.2
/-- a value and what is in it: a trap, or how many items there are then, and the tables -/
def rd_i (T4 : Nat → Int32) (ct : Nat → Nat) (ii : Nat) : Nat → Nat → Nat → Int32 → Int32 → Int32 → Nat → (Nat → Nat → Int32) → rd_R
  | 0, _, _, _, _, _, n, B => .inr (n, B)
  | d + 1, tt, uu, p, ab, inn, n, B => match ri_1 B ct ii tt uu p ab inn n with
    | .inl x => .inl x
    | .inr q => rd_s (fun e n B => rd_m (fun p inn n B => rd_i T4 ct ii d e.1.toNatClampNeg e.2.1.toNatClampNeg p e.2.2.2.2.1 inn n B) (T4 e.1.toNatClampNeg) (T4 e.2.1.toNatClampNeg) e.2.2.1.toNatClampNeg e.2.2.2.1 e.2.2.2.2.2 n B) q.2.2 q.2.1 (n + 1) q.1
/-- a thing that waits -/
def rd_e (T4 : Nat → Int32) (ct : Nat → Nat) (ii d : Nat) (e : ri_E) (n : Nat) (B : Nat → Nat → Int32) : rd_R := rd_m (fun p inn n B => rd_i T4 ct ii d e.1.toNatClampNeg e.2.1.toNatClampNeg p e.2.2.2.2.1 inn n B) (T4 e.1.toNatClampNeg) (T4 e.2.1.toNatClampNeg) e.2.2.1.toNatClampNeg e.2.2.2.1 e.2.2.2.2.2 n B
theorem mo_sw.ag {h : Nat} {B B' : Nat → Nat → Int32} (a : mo_sw h B B') : mo_ag B B' := a.1
/-- what all types are like, for reading -/
def ty_rd (B : Nat → Nat → Int32) (NT : Nat) (ct : Nat → Nat) : Prop := ∀ t, t < NT → ¬ B 5 t = 0 ∧ (B 2 t = 8 → ct t = 1) ∧ (¬ B 2 t = 6 → ¬ B 2 t = 8 → ¬ B 2 t = 9 → ¬ B 2 t = 10 → B 2 t ≤ 10 → ∃ sz, B 4 t = nI sz ∧ 1 ≤ sz ∧ sz ≤ 8 ∧ (B 2 t = 5 → sz = 4))
/-- t fits u, and their parts -/
def ty_ft (B : Nat → Nat → Int32) (ct : Nat → Nat) (pt : Nat → Nat → Nat) (R : Nat → Nat → Prop) : Prop := ∀ t u, R t u → mo_al B t u ∧ ∀ k, k < ty_sh ct t u → R (pt t k) (pt u k)
/-- which waiting things an item makes: parts of t and u -/
theorem ri_1e {B : Nat → Nat → Int32} {NT : Nat} {ct dp : Nat → Nat} {pt : Nat → Nat → Nat} {R : Nat → Nat → Prop} (hW : ty_wf B NT ct dp pt) (hD : ty_rd B NT ct) (hR : ty_ft B ct pt R) (h8 : mo_b8 B) {ii tt uu : Nat} (hii : ii < 6) (ht : tt < NT) (hu : uu < NT) (hf : R tt uu) {p ab inn : Int32} {nn : Nat} {q : (Nat → Nat → Int32) × Nat × (Nat → ri_E)} (h : ri_1 B ct ii tt uu p ab inn nn = .inr q) :
    q.2.1 ≤ 6 ∧ mo_sc B q.1 ∧ ¬ nn = 200 ∧ ∀ j, j < q.2.1 → ∃ t' u' mn, (q.2.2 j).1 = nI t' ∧ (q.2.2 j).2.1 = nI u' ∧ (q.2.2 j).2.2.1 = nI (mn + 1) ∧ mn ≤ 65535 ∧ t' < NT ∧ u' < NT ∧ dp t' < dp tt ∧ R t' u' := by
  obtain ⟨hal, hpt⟩ := hR tt uu hf
  obtain ⟨ht1, ht2, ht3, ht4⟩ := hW.2.1 tt ht
  obtain ⟨hu1, hu2, hu3, hu4⟩ := hW.2.1 uu hu
  have hsh : ty_sh ct tt uu ≤ ct tt ∧ ty_sh ct tt uu ≤ ct uu ∧ ty_sh ct tt uu ≤ 6 := by unfold ty_sh; split <;> omega
  have key : ∀ k, k < ty_sh ct tt uu → ∃ t' u' mn, (ri_e B tt uu p nn k).1 = nI t' ∧ (ri_e B tt uu p nn k).2.1 = nI u' ∧ (ri_e B tt uu p nn k).2.2.1 = nI (mn + 1) ∧ mn ≤ 65535 ∧ t' < NT ∧ u' < NT ∧ dp t' < dp tt ∧ R t' u' := by
    intro k hk
    obtain ⟨p1, p2, p3⟩ := hW.2.2 tt k ht (by omega)
    obtain ⟨q1, q2, q3⟩ := hW.2.2 uu k hu (by omega)
    exact ⟨pt tt k, pt uu k, 0, p1, q1, rfl, by omega, p2, q2, p3, hpt k hk⟩
  have sc1 : mo_sc B (ri_B1 B ii nn uu p ab inn) := ((ri_B0_sc B nn uu p ab inn).tr (mo_sc.up (k := 48) (by omega))).tr (mo_sc.up (k := 49) (by omega))
  unfold ri_1 at h
  split at h
  · cases h
  rename_i hn
  split at h
  · cases h
  split at h
  · cases hh : ri_h p with
    | some z => rw [hh] at h; cases h
    | none =>
      rw [hh] at h
      dsimp only at h
      split at h
      · cases h
      · cases h
        exact ⟨Nat.zero_le _, sc1, hn, fun j hj => absurd hj (Nat.not_lt_zero j)⟩
  split at h
  · rename_i k6 k8
    cases hh : ri_h p with
    | some z => rw [hh] at h; cases h
    | none =>
      rw [hh] at h
      dsimp only at h
      split at h
      · cases h
        exact ⟨Nat.zero_le _, sc1, hn, fun j hj => absurd hj (Nat.not_lt_zero j)⟩
      · rename_i hm
        cases h
        have hr2 : mo_rg (p + 2) 2 = none := by
          unfold ri_h at hh
          split at hh
          · cases hh
          · exact hh
        obtain ⟨v, hv, ev⟩ := mo_nb2 h8 hii hr2
        have hv1 : 1 ≤ v := by
          rcases Nat.eq_zero_or_pos v with z | z
          · rw [ev, z] at hm; exact absurd (by decide) hm
          · exact z
        have hsh1 : 0 < ty_sh ct tt uu := by
          have a1 := (hD tt ht).2.1 k8
          have a2 := (hD uu hu).2.1 (hal.1 ▸ k8)
          unfold ty_sh; split <;> omega
        obtain ⟨p1, p2, p3⟩ := hW.2.2 tt 0 ht (by omega)
        obtain ⟨q1, q2, q3⟩ := hW.2.2 uu 0 hu (by omega)
        exact ⟨by show 1 ≤ 6; decide, sc1, hn, fun j hj => ⟨pt tt 0, pt uu 0, v - 1, p1, q1, by rw [show v - 1 + 1 = v by omega]; exact ev, by omega, p2, q2, p3, hpt 0 hsh1⟩⟩
  split at h
  · cases h
    exact ⟨hsh.2.2, ri_B0_sc B nn uu p ab inn, hn, fun j hj => key _ (by dsimp only at hj; omega)⟩
  split at h
  · rename_i k10
    split at h
    · cases h
    rename_i hp
    split at h
    · cases h
    · rename_i hlt
      cases h
      obtain ⟨b, hb2, hby⟩ := mo_b8_at h8 hii hp
      have hbl : b < ct tt := by
        rw [hby] at hlt
        exact n_lt b (ct tt) (Decidable.not_not.mp hlt) rfl ht1
      have hcu : ct tt ≤ ct uu := by
        have := hal.2.2.2.2 k10
        exact n_nlt (ct uu) (ct tt) this hu1 ht1
      refine ⟨by show 1 ≤ 6; decide, ri_B0_sc B nn uu p ab inn, hn, fun j hj => ?_⟩
      have hsb : b < ty_sh ct tt uu := by unfold ty_sh; split <;> omega
      have := key b hsb
      rw [show (B 13 (256 * nI ii + p).toNatClampNeg).toNatClampNeg = b by rw [hby, nI_clamp (by omega)]]
      exact this
  split at h
  · cases hx : (mo_rh (ri_B0 B nn uu p ab inn) ii tt p nn).1 with
    | some r => rw [hx] at h; cases h
    | none =>
      rw [hx] at h
      cases h
      exact ⟨Nat.zero_le _, (ri_B0_sc B nn uu p ab inn).tr (mo_rh_sc _ _ _ _ _), hn, fun j hj => absurd hj (Nat.not_lt_zero j)⟩
  · cases hx : mo_rp B ii tt p with
    | some r => rw [hx] at h; cases h
    | none =>
      rw [hx] at h
      cases h
      exact ⟨Nat.zero_le _, ri_B0_sc B nn uu p ab inn, hn, fun j hj => absurd hj (Nat.not_lt_zero j)⟩

theorem tx_rc {f : Nat → Int32} {ii fr mn : Nat} {x : Int32 × Int32} : ∀ n k, tx_r f ii fr mn n k = some x → ¬ x.1 = 0 := by
  intro n
  induction n with
  | zero => intro k h; cases h
  | succ n ih =>
    intro k h
    rw [tx_r] at h
    split at h
    · cases h
    · cases e : tx_g f ii fr mn k with
      | some r =>
        rw [e] at h
        cases h
        rcases tx_cc e with z | z <;> rw [z] <;> decide
      | none => rw [e] at h; exact ih _ h
theorem mo_rp_nz {B : Nat → Nat → Int32} {ii tt : Nat} {p : Int32} {x : Int32 × Int32} (h : mo_rp B ii tt p = some x) : ¬ x.1 = 0 := by
  unfold mo_rp at h
  split at h
  · cases h; show ¬ (1 : Int32) = 0; decide
  · split at h
    · cases h; show ¬ (2 : Int32) = 0; decide
    · split at h
      · cases h; show ¬ (3 : Int32) = 0; decide
      · cases h
theorem mo_rh_nz {B : Nat → Nat → Int32} {ii tt : Nat} {p : Int32} {it : Nat} {x : Int32 × Int32} (h : (mo_rh B ii tt p it).1 = some x) : ¬ x.1 = 0 := by
  unfold mo_rh at h
  split at h
  · cases h; show ¬ (1 : Int32) = 0; decide
  · split at h
    · cases h; show ¬ (6 : Int32) = 0; decide
    · split at h
      · cases h; show ¬ (7 : Int32) = 0; decide
      · split at h
        · cases h
        · split at h
          · cases h; show ¬ (8 : Int32) = 0; decide
          · split at h
            · cases h; show ¬ (9 : Int32) = 0; decide
            · cases h
theorem ri_1nz {B : Nat → Nat → Int32} {ct : Nat → Nat} {ii tt uu : Nat} {p ab inn : Int32} {nn : Nat} {x : Int32 × Int32} (h : ri_1 B ct ii tt uu p ab inn nn = .inl x) : ¬ x.1 = 0 := by
  unfold ri_1 at h
  split at h
  · cases h; show ¬ (10 : Int32) = 0; decide
  split at h
  · cases h; show ¬ (5 : Int32) = 0; decide
  split at h
  · cases hh : ri_h p with
    | some z => rw [hh] at h; cases h; show ¬ (1 : Int32) = 0; decide
    | none =>
      rw [hh] at h
      dsimp only at h
      split at h
      · rename_i e; cases h; exact tx_rc _ _ e
      · cases h
  split at h
  · cases hh : ri_h p with
    | some z => rw [hh] at h; cases h; show ¬ (1 : Int32) = 0; decide
    | none =>
      rw [hh] at h
      dsimp only at h
      split at h <;> cases h
  split at h
  · cases h
  split at h
  · split at h
    · cases h; show ¬ (1 : Int32) = 0; decide
    split at h
    · cases h; show ¬ (2 : Int32) = 0; decide
    · cases h
  split at h
  · cases hx : (mo_rh (ri_B0 B nn uu p ab inn) ii tt p nn).1 with
    | some r => rw [hx] at h; cases h; exact mo_rh_nz hx
    | none => rw [hx] at h; cases h
  · cases hx : mo_rp B ii tt p with
    | some r => rw [hx] at h; cases h; exact mo_rp_nz hx
    | none => rw [hx] at h; cases h
def mo_wq (h : Nat) (B B' : Nat → Nat → Int32) : Prop := ∀ j, j < h → B' 37 j = B 37 j ∧ B' 38 j = B 38 j ∧ B' 39 j = B 39 j ∧ B' 40 j = B 40 j ∧ B' 41 j = B 41 j ∧ B' 42 j = B 42 j
theorem mo_wq.rf (h : Nat) (B : Nat → Nat → Int32) : mo_wq h B B := fun _ _ => ⟨rfl, rfl, rfl, rfl, rfl, rfl⟩
theorem mo_wq.tr {h : Nat} {B B' B'' : Nat → Nat → Int32} (a : mo_wq h B B') (b : mo_wq h B' B'') : mo_wq h B B'' := fun j hj => by
  obtain ⟨a1, a2, a3, a4, a5, a6⟩ := a j hj
  obtain ⟨b1, b2, b3, b4, b5, b6⟩ := b j hj
  exact ⟨b1.trans a1, b2.trans a2, b3.trans a3, b4.trans a4, b5.trans a5, b6.trans a6⟩
theorem mo_wq.le {h h' : Nat} {B B' : Nat → Nat → Int32} (a : mo_wq h B B') (hh : h' ≤ h) : mo_wq h' B B' := fun j hj => a j (Nat.lt_of_lt_of_le hj hh)
theorem mo_wq.ea {h j : Nat} {B B' : Nat → Nat → Int32} {e : ri_E} (a : mo_wq h B B') (hj : j < h) (x : mo_ea B j e) : mo_ea B' j e := by
  obtain ⟨a1, a2, a3, a4, a5, a6⟩ := a j hj
  obtain ⟨b1, b2, b3, b4, b5, b6⟩ := x
  exact ⟨a1.trans b1, a2.trans b2, a3.trans b3, a4.trans b4, a5.trans b5, a6.trans b6⟩
theorem ty_wf.co {B B' : Nat → Nat → Int32} {NT : Nat} {ct dp : Nat → Nat} {pt : Nat → Nat → Nat} (h : ty_wf B NT ct dp pt) (h7 : B' 7 = B 7) (h8 : B' 8 = B 8) : ty_wf B' NT ct dp pt := by
  unfold ty_wf
  rw [h7, h8]
  exact h
def ra_q (F : Nat → Int32) (B : Nat → Nat → Int32) (R : rd_R) (F1 : Nat → Int32) (B1 : Nat → Nat → Int32) : Prop := match R with
  | .inl x => F1 54 = x.1 ∧ F1 55 = x.2 ∧ (∀ k, k ≠ 36 → k ≠ 43 → k ≠ 54 → k ≠ 55 → F1 k = F k) ∧ mo_sc B B1
  | .inr q => F1 = upd (upd F 43 (nI q.1)) 36 (nI 0) ∧ q.1 ≤ 200 ∧ mo_sc B q.2 ∧ mo_ag q.2 B1

theorem upd_upd43 (F : Nat → Int32) (n h n2 h2 : Nat) : upd (upd (upd (upd F 43 (nI n)) 36 (nI h)) 43 (nI n2)) 36 (nI h2) = upd (upd F 43 (nI n2)) 36 (nI h2) := by
  funext j; simp only [upd]; split
  · rfl
  · split
    · rfl
    · rfl
theorem upd_c3643 (F : Nat → Int32) (x y z : Int32) : upd (upd (upd F 36 x) 43 y) 36 z = upd (upd F 43 y) 36 z := by
  funext j; simp only [upd]; split
  · rfl
  · split
    · rfl
    · rfl
theorem riwq {B : Nat → Nat → Int32} {ct : Nat → Nat} {ii tt uu : Nat} {p ab inn : Int32} {nn : Nat} {Bq : Nat → Nat → Int32} {len : Nat} {e : Nat → ri_E} (h : ri_1 B ct ii tt uu p ab inn nn = .inr (Bq, len, e)) {hh : Nat} {B1 : Nat → Nat → Int32} (a : ∀ j, j < hh → B1 37 j = Bq 37 j ∧ B1 38 j = Bq 38 j ∧ B1 39 j = Bq 39 j ∧ B1 40 j = Bq 40 j ∧ B1 41 j = Bq 41 j ∧ B1 42 j = Bq 42 j) : mo_wq hh B B1 := by
  have key : Bq 37 = B 37 ∧ Bq 38 = B 38 ∧ Bq 39 = B 39 ∧ Bq 40 = B 40 ∧ Bq 41 = B 41 ∧ Bq 42 = B 42 := by
    unfold ri_1 at h
    split at h
    · cases h
    split at h
    · cases h
    split at h
    · cases hh : ri_h p with
      | some z => rw [hh] at h; cases h
      | none =>
        rw [hh] at h
        dsimp only at h
        split at h
        · cases h
        · cases h; exact ⟨rfl, rfl, rfl, rfl, rfl, rfl⟩
    split at h
    · cases hh : ri_h p with
      | some z => rw [hh] at h; cases h
      | none =>
        rw [hh] at h
        dsimp only at h
        split at h
        · cases h; exact ⟨rfl, rfl, rfl, rfl, rfl, rfl⟩
        · cases h; exact ⟨rfl, rfl, rfl, rfl, rfl, rfl⟩
    split at h
    · cases h; exact ⟨rfl, rfl, rfl, rfl, rfl, rfl⟩
    split at h
    · split at h
      · cases h
      split at h
      · cases h
      · cases h; exact ⟨rfl, rfl, rfl, rfl, rfl, rfl⟩
    split at h
    · cases hx : (mo_rh (ri_B0 B nn uu p ab inn) ii tt p nn).1 with
      | some r => rw [hx] at h; cases h
      | none =>
        rw [hx] at h
        cases h
        unfold mo_rh
        split
        · exact ⟨rfl, rfl, rfl, rfl, rfl, rfl⟩
        · split
          · exact ⟨rfl, rfl, rfl, rfl, rfl, rfl⟩
          · split
            · exact ⟨rfl, rfl, rfl, rfl, rfl, rfl⟩
            · split
              · exact ⟨rfl, rfl, rfl, rfl, rfl, rfl⟩
              · split
                · exact ⟨rfl, rfl, rfl, rfl, rfl, rfl⟩
                · split
                  · exact ⟨rfl, rfl, rfl, rfl, rfl, rfl⟩
                  · exact ⟨rfl, rfl, rfl, rfl, rfl, rfl⟩
    · cases hx : mo_rp B ii tt p with
      | some r => rw [hx] at h; cases h
      | none => rw [hx] at h; cases h; exact ⟨rfl, rfl, rfl, rfl, rfl, rfl⟩
  obtain ⟨k1, k2, k3, k4, k5, k6⟩ := key
  intro j hj
  have := a j hj
  rw [k1, k2, k3, k4, k5, k6] at this
  exact this

set_option maxHeartbeats 4000000 in
set_option maxRecDepth 100000 in
theorem mt_readAll {l : Launch} {D : va_G} {tl : List (ClassId × FieldType)} {Z : (Nat → Prop) → State → Heap → Prop} {kI kZ : ClassId} {am : Nat → Nat} {F : Nat → Int32} {B : Nat → Nat → Int32} (hZ : ev_Zok Z) (ii : Nat) (tt : Nat) (at_ : Int32) (uu : Nat) (hii : ii < 6) (NT : Nat) (ct dp : Nat → Nat) (pt : Nat → Nat → Nat) (R : Nat → Nat → Prop) (hW : ty_wf B NT ct dp pt) (hD : ty_rd B NT ct) (hR : ty_ft B ct pt R) (htt : tt < NT) (huu : uu < NT) (hf : R tt uu) (h0 : F 54 = 0) (h8 : mo_b8 B) (hG : ∀ y, y < 102 → ¬ B 16 y = 0 → vp_in (B 17 y) 1024) : MT (mo_π l D cl_A kI kZ tl Z) m_readAll 0 0 [.ref (am 60), .int (nI ii), .int (nI tt), .int at_, .int (nI uu)] (mo_W mo_ci am kI kZ F B) (mo_qv am kI kZ (fun F1 B1 => ra_q F B (rd_e (B 4) ct ii 5 (nI tt, nI uu, 1, at_, -1, 0) 0 B) F1 B1)) := by
  refine mt_of mo_pl rfl (Nat.le_of_ble_eq_true rfl) (ev_eq (lv' := [some (.ref (am 60)), some (.int (nI ii)), some (.int (nI tt)), some (.int at_), some (.int (nI uu)), none, none, none, none, none, none]) ?_)
  have FIN : ∀ (n : Nat) (Bp B2 : Nat → Nat → Int32) (o5 o6 o7 o8 o9 o10 : Option Value), rd_e (B 4) ct ii 5 (nI tt, nI uu, 1, at_, -1, 0) 0 B = .inr (n, Bp) → n ≤ 200 → mo_sc B Bp → mo_ag Bp B2 → EV (mo_π l D cl_A kI kZ tl Z) m_readAll (ev_E (mo_π l D cl_A kI kZ tl Z) 0 0 (mo_qv am kI kZ (fun F1 B1 => ra_q F B (rd_e (B 4) ct ii 5 (nI tt, nI uu, 1, at_, -1, 0) 0 B) F1 B1))) 0 0 21 [some (.ref (am 60)), some (.int (nI ii)), some (.int (nI tt)), some (.int at_), some (.int (nI uu)), o5, o6, o7, o8, o9, o10] [] (mo_W mo_ci am kI kZ (upd (upd F 43 (nI (n))) 36 (nI (0))) B2) := by
    intro n Bp B2 o5 o6 o7 o8 o9 o10 hr hn hsc hag
    refine ev_aload_0 21 d_mo_readAll_21 ?_
    refine mo_geti 22 36 d_mo_readAll_22 lk_181 ?_
    refine ev_ifle 25 174 d_mo_readAll_25 (fun c25 => ?_) (fun c25 => ?_)
    · refine ev_vret 174 d_mo_readAll_174 rfl ?_
      exact ⟨_, _, rfl, rfl, by rw [hr]; exact ⟨rfl, hn, hsc, hag⟩⟩
    · exact absurd (show nI 0 ≤ 0 by decide) c25
  have TR : ∀ (x : Int32 × Int32) (F1 : Nat → Int32) (B1 : Nat → Nat → Int32) (o5 o6 o7 o8 o9 o10 : Option Value), rd_e (B 4) ct ii 5 (nI tt, nI uu, 1, at_, -1, 0) 0 B = .inl x → ¬ x.1 = 0 → F1 54 = x.1 → F1 55 = x.2 → (∀ k, k ≠ 36 → k ≠ 43 → k ≠ 54 → k ≠ 55 → F1 k = F k) → mo_sc B B1 → EV (mo_π l D cl_A kI kZ tl Z) m_readAll (ev_E (mo_π l D cl_A kI kZ tl Z) 0 0 (mo_qv am kI kZ (fun F1 B1 => ra_q F B (rd_e (B 4) ct ii 5 (nI tt, nI uu, 1, at_, -1, 0) 0 B) F1 B1))) 0 0 21 [some (.ref (am 60)), some (.int (nI ii)), some (.int (nI tt)), some (.int at_), some (.int (nI uu)), o5, o6, o7, o8, o9, o10] [] (mo_W mo_ci am kI kZ F1 B1) := by
    intro x F1 B1 o5 o6 o7 o8 o9 o10 hr hx a1 a2 a3 a4
    refine ev_aload_0 21 d_mo_readAll_21 ?_
    refine mo_geti 22 36 d_mo_readAll_22 lk_181 ?_
    refine ev_ifle 25 174 d_mo_readAll_25 (fun c25 => ?_) (fun c25 => ?_)
    · refine ev_vret 174 d_mo_readAll_174 rfl ?_
      exact ⟨_, _, rfl, rfl, by rw [hr]; exact ⟨a1, a2, a3, a4⟩⟩
    · refine ev_aload_0 28 d_mo_readAll_28 ?_
      refine mo_geti 29 54 d_mo_readAll_29 lk_224 ?_
      refine ev_ifne 32 174 d_mo_readAll_32 (fun c32 => ?_) (fun c32 => ?_)
      · refine ev_vret 174 d_mo_readAll_174 rfl ?_
        exact ⟨_, _, rfl, rfl, by rw [hr]; exact ⟨a1, a2, a3, a4⟩⟩
      · exact absurd (a1.symm.trans c32) hx
  have PR : ∀ (d t u : Nat) (ab : Int32), dp t ≤ d → t < NT → u < NT → R t u → ∀ (r : Nat) (pl inn : Int32) (n h : Nat) (Bc Bp : Nat → Nat → Int32) (o5 o6 o7 o8 o9 o10 : Option Value), r ≤ 65535 → h + 6 * d ≤ 52 → n ≤ 200 → mo_sc B Bp → mo_ag Bp Bc → mo_ea Bc h (nI t, nI u, nI (r + 1), pl, ab, inn) → (match rd_m (fun p inn n B9 => rd_i (B 4) ct ii d t u p ab inn n B9) (B 4 t) (B 4 u) (r + 1) pl inn n Bp with | .inl x => rd_e (B 4) ct ii 5 (nI tt, nI uu, 1, at_, -1, 0) 0 B = .inl x | .inr q => q.1 ≤ 200 → mo_sc B q.2 → ∀ (B2 : Nat → Nat → Int32) (q5 q6 q7 q8 q9 q10 : Option Value), mo_ag q.2 B2 → mo_wq (h) Bc B2 → EV (mo_π l D cl_A kI kZ tl Z) m_readAll (ev_E (mo_π l D cl_A kI kZ tl Z) 0 0 (mo_qv am kI kZ (fun F1 B1 => ra_q F B (rd_e (B 4) ct ii 5 (nI tt, nI uu, 1, at_, -1, 0) 0 B) F1 B1))) 0 0 21 [some (.ref (am 60)), some (.int (nI ii)), some (.int (nI tt)), some (.int at_), some (.int (nI uu)), q5, q6, q7, q8, q9, q10] [] (mo_W mo_ci am kI kZ (upd (upd F 43 (nI (q.1))) 36 (nI (h))) B2)) → EV (mo_π l D cl_A kI kZ tl Z) m_readAll (ev_E (mo_π l D cl_A kI kZ tl Z) 0 0 (mo_qv am kI kZ (fun F1 B1 => ra_q F B (rd_e (B 4) ct ii 5 (nI tt, nI uu, 1, at_, -1, 0) 0 B) F1 B1))) 0 0 21 [some (.ref (am 60)), some (.int (nI ii)), some (.int (nI tt)), some (.int at_), some (.int (nI uu)), o5, o6, o7, o8, o9, o10] [] (mo_W mo_ci am kI kZ (upd (upd F 43 (nI (n))) 36 (nI (h + 1))) Bc) := by
    intro d
    induction d with
    | zero => intro t u ab hd ht; exact absurd (hW.2.1 t ht).2.2.1 (by omega)
    | succ d ihd =>
      intro t u ab hd ht hu hf
      have SB : ∀ (len h1 n1 : Nat) (e : Nat → ri_E) (Bp1 B1 : Nat → Nat → Int32) (o5 o6 o7 o8 o9 o10 : Option Value), len ≤ 6 → h1 + len + 6 * d ≤ 53 → (∀ j, j < len → ∃ t2 u2 mn, (e j).1 = nI t2 ∧ (e j).2.1 = nI u2 ∧ (e j).2.2.1 = nI (mn + 1) ∧ mn ≤ 65535 ∧ t2 < NT ∧ u2 < NT ∧ dp t2 < dp t ∧ R t2 u2) → (∀ j, j < len → mo_ea B1 (h1 + j) (e j)) → n1 ≤ 200 → mo_sc B Bp1 → mo_ag Bp1 B1 → (match rd_s (rd_e (B 4) ct ii d) e len n1 Bp1 with | .inl x => rd_e (B 4) ct ii 5 (nI tt, nI uu, 1, at_, -1, 0) 0 B = .inl x | .inr q => q.1 ≤ 200 → mo_sc B q.2 → ∀ (B2 : Nat → Nat → Int32) (q5 q6 q7 q8 q9 q10 : Option Value), mo_ag q.2 B2 → mo_wq (h1) B1 B2 → EV (mo_π l D cl_A kI kZ tl Z) m_readAll (ev_E (mo_π l D cl_A kI kZ tl Z) 0 0 (mo_qv am kI kZ (fun F1 B1 => ra_q F B (rd_e (B 4) ct ii 5 (nI tt, nI uu, 1, at_, -1, 0) 0 B) F1 B1))) 0 0 21 [some (.ref (am 60)), some (.int (nI ii)), some (.int (nI tt)), some (.int at_), some (.int (nI uu)), q5, q6, q7, q8, q9, q10] [] (mo_W mo_ci am kI kZ (upd (upd F 43 (nI (q.1))) 36 (nI (h1))) B2)) → EV (mo_π l D cl_A kI kZ tl Z) m_readAll (ev_E (mo_π l D cl_A kI kZ tl Z) 0 0 (mo_qv am kI kZ (fun F1 B1 => ra_q F B (rd_e (B 4) ct ii 5 (nI tt, nI uu, 1, at_, -1, 0) 0 B) F1 B1))) 0 0 21 [some (.ref (am 60)), some (.int (nI ii)), some (.int (nI tt)), some (.int at_), some (.int (nI uu)), o5, o6, o7, o8, o9, o10] [] (mo_W mo_ci am kI kZ (upd (upd F 43 (nI (n1))) 36 (nI (h1 + len))) B1) := by
        intro len
        induction len with
        | zero =>
          intro h1 n1 e Bp1 B1 o5 o6 o7 o8 o9 o10 hl hb hc hea hn hsc hag hk9
          exact hk9 hn hsc B1 o5 o6 o7 o8 o9 o10 hag (mo_wq.rf _ _)
        | succ len ihl =>
          intro h1 n1 e Bp1 B1 o5 o6 o7 o8 o9 o10 hl hb hc hea hn hsc hag hk9
          obtain ⟨t2, u2, mn, a1, a2, a3, a4, a5, a6, a7, a8⟩ := hc len (by omega)
          have hT32 := hW.1
          have heq : rd_e (B 4) ct ii d (e len) n1 Bp1 = rd_m (fun p inn n B9 => rd_i (B 4) ct ii d t2 u2 p (e len).2.2.2.2.1 inn n B9) (B 4 t2) (B 4 u2) (mn + 1) (e len).2.2.2.1 (e len).2.2.2.2.2 n1 Bp1 := by
            unfold rd_e
            rw [a1, a2, a3, nI_clamp (by omega), nI_clamp (by omega), nI_clamp (by omega)]
          have hee := hea len (by omega)
          refine ihd t2 u2 (e len).2.2.2.2.1 (by omega) a5 a6 a8 mn (e len).2.2.2.1 (e len).2.2.2.2.2 n1 (h1 + len) B1 Bp1 o5 o6 o7 o8 o9 o10 a4 (by omega) hn hsc hag ⟨hee.1.trans a1, hee.2.1.trans a2, hee.2.2.1.trans a3, hee.2.2.2.1, hee.2.2.2.2.1, hee.2.2.2.2.2⟩ ?_
          rw [← heq]
          rw [rd_s] at hk9
          cases hx : rd_e (B 4) ct ii d (e len) n1 Bp1 with
          | inl x => rw [hx] at hk9; exact hk9
          | inr q =>
            rw [hx] at hk9
            dsimp only at hk9
            intro b1 b2 B2 q5 q6 q7 q8 q9 q10 b3 b4
            refine ihl h1 q.1 e q.2 B2 q5 q6 q7 q8 q9 q10 (by omega) (by omega) (fun j hj => hc j (by omega)) (fun j hj => b4.ea (by omega) (hea j (by omega))) b1 b2 b3 ?_
            cases hy : rd_s (rd_e (B 4) ct ii d) e len q.1 q.2 with
            | inl x => rw [hy] at hk9; exact hk9
            | inr q2 =>
              rw [hy] at hk9
              intro c1 c2 B3 p5 p6 p7 p8 p9 p10 c3 c4
              exact hk9 c1 c2 B3 p5 p6 p7 p8 p9 p10 c3 ((b4.le (by omega)).tr c4)
      have ST : ∀ (r : Nat) (pl inn : Int32) (n h HH : Nat) (Bc Bp : Nat → Nat → Int32) (o5 o6 o7 o8 o9 o10 : Option Value), HH = (if r = 0 then h else h + 1) → r ≤ 65535 → h + 6 * (d + 1) ≤ 52 → n ≤ 200 → mo_sc B Bp → mo_ag Bp Bc → mo_ea Bc h (nI t, nI u, nI (r + 1), pl, ab, inn) → (match rd_i (B 4) ct ii (d + 1) t u pl ab inn n Bp with | .inl x => rd_e (B 4) ct ii 5 (nI tt, nI uu, 1, at_, -1, 0) 0 B = .inl x | .inr q => q.1 ≤ 200 → mo_sc B q.2 → ∀ (B2 : Nat → Nat → Int32) (q5 q6 q7 q8 q9 q10 : Option Value), mo_ag q.2 B2 → mo_wq HH (va_up (va_up (va_up Bc 39 (upd (Bc 39) h (nI r))) 40 (upd (Bc 40) h (pl + B 4 t))) 42 (upd (Bc 42) h (inn + B 4 u))) B2 → EV (mo_π l D cl_A kI kZ tl Z) m_readAll (ev_E (mo_π l D cl_A kI kZ tl Z) 0 0 (mo_qv am kI kZ (fun F1 B1 => ra_q F B (rd_e (B 4) ct ii 5 (nI tt, nI uu, 1, at_, -1, 0) 0 B) F1 B1))) 0 0 21 [some (.ref (am 60)), some (.int (nI ii)), some (.int (nI tt)), some (.int at_), some (.int (nI uu)), q5, q6, q7, q8, q9, q10] [] (mo_W mo_ci am kI kZ (upd (upd F 43 (nI (q.1))) 36 (nI (HH))) B2)) → EV (mo_π l D cl_A kI kZ tl Z) m_readAll (ev_E (mo_π l D cl_A kI kZ tl Z) 0 0 (mo_qv am kI kZ (fun F1 B1 => ra_q F B (rd_e (B 4) ct ii 5 (nI tt, nI uu, 1, at_, -1, 0) 0 B) F1 B1))) 0 0 21 [some (.ref (am 60)), some (.int (nI ii)), some (.int (nI tt)), some (.int at_), some (.int (nI uu)), o5, o6, o7, o8, o9, o10] [] (mo_W mo_ci am kI kZ (upd (upd F 43 (nI (n))) 36 (nI (h + 1))) Bc) := by
        intro r pl inn n h HH Bc Bp o5 o6 o7 o8 o9 o10 hHH hr hh hn hsc hag hea hK
        have hT32 := hW.1
        have hc4 : Bc 4 = B 4 := (hag 4 (by omega)).trans (hsc 4 (by omega) (by omega) (by omega) (by omega))
        obtain ⟨x1, x2, x3, x4, x5, x6⟩ := hea
        refine ev_aload_0 21 d_mo_readAll_21 ?_
        refine mo_geti 22 36 d_mo_readAll_22 lk_181 ?_
        refine ev_ifle 25 174 d_mo_readAll_25 (fun c25 => ?_) (fun c25 => ?_)
        · exact absurd (show nI (h + 1) ≤ 0 from c25) (nI_nle (by omega) (by omega))
        · refine ev_aload_0 28 d_mo_readAll_28 ?_
          refine mo_geti 29 54 d_mo_readAll_29 lk_224 ?_
          refine ev_ifne 32 174 d_mo_readAll_32 (fun c32 => ?_) (fun c32 => ?_)
          · exact absurd h0 c32
          · refine ev_aload_0 35 d_mo_readAll_35 ?_
            refine mo_geti 36 36 d_mo_readAll_36 lk_181 ?_
            refine ev_iconst_1 39 d_mo_readAll_39 ?_
            refine ev_isub 40 d_mo_readAll_40 ?_
            refine ev_topi (nI h) (show nI (h + 1) - 1 = nI h from nI_pred h) ?_
            refine ev_istore_5 41 d_mo_readAll_41 ?_
            refine ev_aload_0 43 d_mo_readAll_43 ?_
            refine mo_getr 44 26 37 d_mo_readAll_44 lk_93 ?_
            refine ev_iload_5 47 d_mo_readAll_47 ?_
            refine mo_aldn (j := h) 49 26 37 d_mo_readAll_49 (by show h < 64; omega) ?_
            refine ev_topi (nI t) x1 ?_
            refine ev_istore_6 50 d_mo_readAll_50 ?_
            refine ev_aload_0 52 d_mo_readAll_52 ?_
            refine mo_getr 53 27 38 d_mo_readAll_53 lk_96 ?_
            refine ev_iload_5 56 d_mo_readAll_56 ?_
            refine mo_aldn (j := h) 58 27 38 d_mo_readAll_58 (by show h < 64; omega) ?_
            refine ev_topi (nI u) x2 ?_
            refine ev_istore_7 59 d_mo_readAll_59 ?_
            refine ev_aload_0 61 d_mo_readAll_61 ?_
            refine mo_getr 62 29 40 d_mo_readAll_62 lk_102 ?_
            refine ev_iload_5 65 d_mo_readAll_65 ?_
            refine mo_aldn (j := h) 67 29 40 d_mo_readAll_67 (by show h < 64; omega) ?_
            refine ev_topi pl x4 ?_
            refine ev_istore_8 68 d_mo_readAll_68 ?_
            refine ev_aload_0 70 d_mo_readAll_70 ?_
            refine mo_getr 71 30 41 d_mo_readAll_71 lk_105 ?_
            refine ev_iload_5 74 d_mo_readAll_74 ?_
            refine mo_aldn (j := h) 76 30 41 d_mo_readAll_76 (by show h < 64; omega) ?_
            refine ev_topi ab x5 ?_
            refine ev_istore_9 77 d_mo_readAll_77 ?_
            refine ev_aload_0 79 d_mo_readAll_79 ?_
            refine mo_getr 80 31 42 d_mo_readAll_80 lk_108 ?_
            refine ev_iload_5 83 d_mo_readAll_83 ?_
            refine mo_aldn (j := h) 85 31 42 d_mo_readAll_85 (by show h < 64; omega) ?_
            refine ev_topi inn x6 ?_
            refine ev_istore_10 86 d_mo_readAll_86 ?_
            refine ev_aload_0 88 d_mo_readAll_88 ?_
            refine mo_getr 89 28 39 d_mo_readAll_89 lk_99 ?_
            refine ev_iload_5 92 d_mo_readAll_92 ?_
            refine ev_dup2 94 d_mo_readAll_94 ?_
            refine mo_aldn (j := h) 95 28 39 d_mo_readAll_95 (by show h < 64; omega) ?_
            refine ev_topi (nI (r + 1)) x3 ?_
            refine ev_iconst_1 96 d_mo_readAll_96 ?_
            refine ev_isub 97 d_mo_readAll_97 ?_
            refine ev_topi (nI r) (nI_pred r) ?_
            refine mo_astn (j := h) 98 28 39 d_mo_readAll_98 (by show h < 64; omega) ?_
            refine ev_aload_0 99 d_mo_readAll_99 ?_
            refine mo_getr 100 29 40 d_mo_readAll_100 lk_102 ?_
            refine ev_iload_5 103 d_mo_readAll_103 ?_
            refine ev_iload_8 105 d_mo_readAll_105 ?_
            refine ev_aload_0 107 d_mo_readAll_107 ?_
            refine mo_getr 108 2 4 d_mo_readAll_108 lk_16 ?_
            refine ev_iload_6 111 d_mo_readAll_111 ?_
            refine mo_aldn (j := t) 113 2 4 d_mo_readAll_113 (by show t < 32; omega) ?_
            refine ev_topi (B 4 t) (show Bc 4 t = B 4 t by rw [hc4]) ?_
            refine ev_iadd 114 d_mo_readAll_114 ?_
            refine mo_astn (j := h) 115 29 40 d_mo_readAll_115 (by show h < 64; omega) ?_
            refine ev_aload_0 116 d_mo_readAll_116 ?_
            refine mo_getr 117 31 42 d_mo_readAll_117 lk_108 ?_
            refine ev_iload_5 120 d_mo_readAll_120 ?_
            refine ev_iload_10 122 d_mo_readAll_122 ?_
            refine ev_aload_0 124 d_mo_readAll_124 ?_
            refine mo_getr 125 2 4 d_mo_readAll_125 lk_16 ?_
            refine ev_iload_7 128 d_mo_readAll_128 ?_
            refine mo_aldn (j := u) 130 2 4 d_mo_readAll_130 (by show u < 32; omega) ?_
            refine ev_topi (B 4 u) (show Bc 4 u = B 4 u by rw [hc4]) ?_
            refine ev_iadd 131 d_mo_readAll_131 ?_
            refine mo_astn (j := h) 132 31 42 d_mo_readAll_132 (by show h < 64; omega) ?_
            refine ev_aload_0 133 d_mo_readAll_133 ?_
            refine ev_aload_0 134 d_mo_readAll_134 ?_
            refine mo_getr 135 28 39 d_mo_readAll_135 lk_99 ?_
            refine ev_iload_5 138 d_mo_readAll_138 ?_
            refine mo_aldn (j := h) 140 28 39 d_mo_readAll_140 (by show h < 64; omega) ?_
            refine ev_topi (nI r) (show upd (Bc 39) h (nI r) h = nI r from upd_eq) ?_
            refine ev_ifne 141 149 d_mo_readAll_141 (fun c141 => ?_) (fun c141 => ?_)
            · refine ev_aload_0 149 d_mo_readAll_149 ?_
              refine mo_geti 150 36 d_mo_readAll_150 lk_181 ?_
              refine ev_topi (nI HH) (by rw [hHH, if_neg (fun z => c141 (by rw [z]; rfl))]; rfl) ?_
              refine mo_puti 153 36 d_mo_readAll_153 lp_181 ?_
              rw [upd_upd]
              obtain ⟨Bm, hBm⟩ : ∃ Bm : Nat → Nat → Int32, Bm = va_up (va_up (va_up Bc 39 (upd (Bc 39) h (nI r))) 40 (upd (Bc 40) h (pl + B 4 t))) 42 (upd (Bc 42) h (inn + B 4 u)) := ⟨_, rfl⟩
              refine ev_eq (ws' := mo_W mo_ci am kI kZ (upd (upd F 43 (nI (n))) 36 (nI (HH))) Bm) ?_ (h3 := by rw [hBm]; rfl)
              have hagm : mo_ag Bc Bm := by
                intro k hk
                have k1 : k ≠ 39 := by omega
                have k2 : k ≠ 40 := by omega
                have k3 : k ≠ 42 := by omega
                rw [hBm, va_up_ne _ _ k3, va_up_ne _ _ k2, va_up_ne _ _ k1]
              have hmsc : mo_sc B Bm := fun k k1 k2 k3 k4 => (hagm k k3).trans ((hag k k3).trans (hsc k k1 k2 k3 k4))
              have e2 : Bm 2 = B 2 := hmsc 2 (by omega) (by omega) (by omega) (by omega)
              have e4 : Bm 4 = B 4 := hmsc 4 (by omega) (by omega) (by omega) (by omega)
              have e5 : Bm 5 = B 5 := hmsc 5 (by omega) (by omega) (by omega) (by omega)
              have e7 : Bm 7 = B 7 := hmsc 7 (by omega) (by omega) (by omega) (by omega)
              have e8 : Bm 8 = B 8 := hmsc 8 (by omega) (by omega) (by omega) (by omega)
              have e13 : Bm 13 = B 13 := hmsc 13 (by omega) (by omega) (by omega) (by omega)
              have e16 : Bm 16 = B 16 := hmsc 16 (by omega) (by omega) (by omega) (by omega)
              have e17 : Bm 17 = B 17 := hmsc 17 (by omega) (by omega) (by omega) (by omega)
              have hHb : HH ≤ h + 1 := by rw [hHH]; split <;> omega
              refine ev_aload_0 156 d_mo_readAll_156 ?_
              refine ev_iload_1 157 d_mo_readAll_157 ?_
              refine ev_iload_6 158 d_mo_readAll_158 ?_
              refine ev_iload_7 160 d_mo_readAll_160 ?_
              refine ev_iload_8 162 d_mo_readAll_162 ?_
              refine ev_iload_9 164 d_mo_readAll_164 ?_
              refine ev_iload_10 166 d_mo_readAll_166 ?_
              refine mo_callv6 168 d_mo_readAll_168 hZ kc_257 (mt_readItem (F := (upd (upd F 43 (nI (n))) 36 (nI (HH)))) (B := Bm) hZ ii t u pl ab inn hii NT ct dp pt (hW.co (e7) (e8)) ht hu h0 (by unfold mo_b8; rw [e13]; exact h8) (by rw [e5]; exact (hD t ht).1) n rfl hn HH rfl (by omega) (by rw [e16, e17]; exact hG) (by rw [e2, e4]; exact (hD t ht).2.2)) (fun F1 B1 h9 => ?_)
              refine ev_goto 171 21 d_mo_readAll_171 ?_
              have hri := (hag.tr hagm).ri ct ii t u pl ab inn n
              rw [rd_i] at hK
              cases hx : ri_1 Bp ct ii t u pl ab inn n with
              | inl x =>
                rw [hx] at hri hK
                rw [show ri_1 Bm ct ii t u pl ab inn n = .inl x from hri] at h9
                obtain ⟨a1, a2, a3, a4⟩ := h9
                exact TR x F1 B1 _ _ _ _ _ _ hK (ri_1nz hx) a1 a2 (fun k k1 k2 k3 k4 => (a3 k k2 k3 k4).trans ((upd_ne k1).trans (upd_ne k2))) (hmsc.tr a4)
              | inr q =>
                rw [hx] at hri hK
                obtain ⟨Bq, e1, hagq⟩ := hri
                rw [e1] at h9
                obtain ⟨a1, a2, a3⟩ := h9
                have h8p : mo_b8 Bp := by unfold mo_b8; rw [hsc 13 (by omega) (by omega) (by omega) (by omega)]; exact h8
                obtain ⟨b1, b2, b3, b4⟩ := ri_1e (hW.co (hsc 7 (by omega) (by omega) (by omega) (by omega)) (hsc 8 (by omega) (by omega) (by omega) (by omega))) (by unfold ty_rd; rw [hsc 5 (by omega) (by omega) (by omega) (by omega), hsc 2 (by omega) (by omega) (by omega) (by omega), hsc 4 (by omega) (by omega) (by omega) (by omega)]; exact hD) (by unfold ty_ft mo_al; rw [hsc 2 (by omega) (by omega) (by omega) (by omega), hsc 3 (by omega) (by omega) (by omega) (by omega), hsc 7 (by omega) (by omega) (by omega) (by omega)]; exact hR) h8p hii ht hu hf hx
                have hn1 : n + 1 ≤ 200 := by omega
                dsimp only at a1 a2 a3
                rw [upd_upd43] at a1
                subst a1
                refine SB q.2.1 HH (n + 1) q.2.2 q.1 B1 _ _ _ _ _ _ b1 (by omega) b4 a3 hn1 (hsc.tr b2) (hagq.tr a2.ag) ?_
                have hk9 : (match rd_s (rd_e (B 4) ct ii d) q.2.2 q.2.1 (n + 1) q.1 with | .inl x => rd_e (B 4) ct ii 5 (nI tt, nI uu, 1, at_, -1, 0) 0 B = .inl x | .inr q => q.1 ≤ 200 → mo_sc B q.2 → ∀ (B2 : Nat → Nat → Int32) (q5 q6 q7 q8 q9 q10 : Option Value), mo_ag q.2 B2 → mo_wq HH (va_up (va_up (va_up Bc 39 (upd (Bc 39) h (nI r))) 40 (upd (Bc 40) h (pl + B 4 t))) 42 (upd (Bc 42) h (inn + B 4 u))) B2 → EV (mo_π l D cl_A kI kZ tl Z) m_readAll (ev_E (mo_π l D cl_A kI kZ tl Z) 0 0 (mo_qv am kI kZ (fun F1 B1 => ra_q F B (rd_e (B 4) ct ii 5 (nI tt, nI uu, 1, at_, -1, 0) 0 B) F1 B1))) 0 0 21 [some (.ref (am 60)), some (.int (nI ii)), some (.int (nI tt)), some (.int at_), some (.int (nI uu)), q5, q6, q7, q8, q9, q10] [] (mo_W mo_ci am kI kZ (upd (upd F 43 (nI (q.1))) 36 (nI (HH))) B2)) := hK
                cases hy : rd_s (rd_e (B 4) ct ii d) q.2.2 q.2.1 (n + 1) q.1 with
                | inl x => rw [hy] at hk9; exact hk9
                | inr q2 =>
                  rw [hy] at hk9
                  intro c1 c2 B3 p5 p6 p7 p8 p9 p10 c3 c4
                  refine hk9 c1 c2 B3 p5 p6 p7 p8 p9 p10 c3 ?_
                  rw [← hBm]
                  exact (riwq e1 a2.2).tr c4
            · refine ev_iload_5 144 d_mo_readAll_144 ?_
              refine ev_goto 146 153 d_mo_readAll_146 ?_
              refine ev_topi (nI HH) (by rw [hHH, if_pos ((n_z (by omega)).mp c141)]) ?_
              refine mo_puti 153 36 d_mo_readAll_153 lp_181 ?_
              rw [upd_upd]
              obtain ⟨Bm, hBm⟩ : ∃ Bm : Nat → Nat → Int32, Bm = va_up (va_up (va_up Bc 39 (upd (Bc 39) h (nI r))) 40 (upd (Bc 40) h (pl + B 4 t))) 42 (upd (Bc 42) h (inn + B 4 u)) := ⟨_, rfl⟩
              refine ev_eq (ws' := mo_W mo_ci am kI kZ (upd (upd F 43 (nI (n))) 36 (nI (HH))) Bm) ?_ (h3 := by rw [hBm]; rfl)
              have hagm : mo_ag Bc Bm := by
                intro k hk
                have k1 : k ≠ 39 := by omega
                have k2 : k ≠ 40 := by omega
                have k3 : k ≠ 42 := by omega
                rw [hBm, va_up_ne _ _ k3, va_up_ne _ _ k2, va_up_ne _ _ k1]
              have hmsc : mo_sc B Bm := fun k k1 k2 k3 k4 => (hagm k k3).trans ((hag k k3).trans (hsc k k1 k2 k3 k4))
              have e2 : Bm 2 = B 2 := hmsc 2 (by omega) (by omega) (by omega) (by omega)
              have e4 : Bm 4 = B 4 := hmsc 4 (by omega) (by omega) (by omega) (by omega)
              have e5 : Bm 5 = B 5 := hmsc 5 (by omega) (by omega) (by omega) (by omega)
              have e7 : Bm 7 = B 7 := hmsc 7 (by omega) (by omega) (by omega) (by omega)
              have e8 : Bm 8 = B 8 := hmsc 8 (by omega) (by omega) (by omega) (by omega)
              have e13 : Bm 13 = B 13 := hmsc 13 (by omega) (by omega) (by omega) (by omega)
              have e16 : Bm 16 = B 16 := hmsc 16 (by omega) (by omega) (by omega) (by omega)
              have e17 : Bm 17 = B 17 := hmsc 17 (by omega) (by omega) (by omega) (by omega)
              have hHb : HH ≤ h + 1 := by rw [hHH]; split <;> omega
              refine ev_aload_0 156 d_mo_readAll_156 ?_
              refine ev_iload_1 157 d_mo_readAll_157 ?_
              refine ev_iload_6 158 d_mo_readAll_158 ?_
              refine ev_iload_7 160 d_mo_readAll_160 ?_
              refine ev_iload_8 162 d_mo_readAll_162 ?_
              refine ev_iload_9 164 d_mo_readAll_164 ?_
              refine ev_iload_10 166 d_mo_readAll_166 ?_
              refine mo_callv6 168 d_mo_readAll_168 hZ kc_257 (mt_readItem (F := (upd (upd F 43 (nI (n))) 36 (nI (HH)))) (B := Bm) hZ ii t u pl ab inn hii NT ct dp pt (hW.co (e7) (e8)) ht hu h0 (by unfold mo_b8; rw [e13]; exact h8) (by rw [e5]; exact (hD t ht).1) n rfl hn HH rfl (by omega) (by rw [e16, e17]; exact hG) (by rw [e2, e4]; exact (hD t ht).2.2)) (fun F1 B1 h9 => ?_)
              refine ev_goto 171 21 d_mo_readAll_171 ?_
              have hri := (hag.tr hagm).ri ct ii t u pl ab inn n
              rw [rd_i] at hK
              cases hx : ri_1 Bp ct ii t u pl ab inn n with
              | inl x =>
                rw [hx] at hri hK
                rw [show ri_1 Bm ct ii t u pl ab inn n = .inl x from hri] at h9
                obtain ⟨a1, a2, a3, a4⟩ := h9
                exact TR x F1 B1 _ _ _ _ _ _ hK (ri_1nz hx) a1 a2 (fun k k1 k2 k3 k4 => (a3 k k2 k3 k4).trans ((upd_ne k1).trans (upd_ne k2))) (hmsc.tr a4)
              | inr q =>
                rw [hx] at hri hK
                obtain ⟨Bq, e1, hagq⟩ := hri
                rw [e1] at h9
                obtain ⟨a1, a2, a3⟩ := h9
                have h8p : mo_b8 Bp := by unfold mo_b8; rw [hsc 13 (by omega) (by omega) (by omega) (by omega)]; exact h8
                obtain ⟨b1, b2, b3, b4⟩ := ri_1e (hW.co (hsc 7 (by omega) (by omega) (by omega) (by omega)) (hsc 8 (by omega) (by omega) (by omega) (by omega))) (by unfold ty_rd; rw [hsc 5 (by omega) (by omega) (by omega) (by omega), hsc 2 (by omega) (by omega) (by omega) (by omega), hsc 4 (by omega) (by omega) (by omega) (by omega)]; exact hD) (by unfold ty_ft mo_al; rw [hsc 2 (by omega) (by omega) (by omega) (by omega), hsc 3 (by omega) (by omega) (by omega) (by omega), hsc 7 (by omega) (by omega) (by omega) (by omega)]; exact hR) h8p hii ht hu hf hx
                have hn1 : n + 1 ≤ 200 := by omega
                dsimp only at a1 a2 a3
                rw [upd_upd43] at a1
                subst a1
                refine SB q.2.1 HH (n + 1) q.2.2 q.1 B1 _ _ _ _ _ _ b1 (by omega) b4 a3 hn1 (hsc.tr b2) (hagq.tr a2.ag) ?_
                have hk9 : (match rd_s (rd_e (B 4) ct ii d) q.2.2 q.2.1 (n + 1) q.1 with | .inl x => rd_e (B 4) ct ii 5 (nI tt, nI uu, 1, at_, -1, 0) 0 B = .inl x | .inr q => q.1 ≤ 200 → mo_sc B q.2 → ∀ (B2 : Nat → Nat → Int32) (q5 q6 q7 q8 q9 q10 : Option Value), mo_ag q.2 B2 → mo_wq HH (va_up (va_up (va_up Bc 39 (upd (Bc 39) h (nI r))) 40 (upd (Bc 40) h (pl + B 4 t))) 42 (upd (Bc 42) h (inn + B 4 u))) B2 → EV (mo_π l D cl_A kI kZ tl Z) m_readAll (ev_E (mo_π l D cl_A kI kZ tl Z) 0 0 (mo_qv am kI kZ (fun F1 B1 => ra_q F B (rd_e (B 4) ct ii 5 (nI tt, nI uu, 1, at_, -1, 0) 0 B) F1 B1))) 0 0 21 [some (.ref (am 60)), some (.int (nI ii)), some (.int (nI tt)), some (.int at_), some (.int (nI uu)), q5, q6, q7, q8, q9, q10] [] (mo_W mo_ci am kI kZ (upd (upd F 43 (nI (q.1))) 36 (nI (HH))) B2)) := hK
                cases hy : rd_s (rd_e (B 4) ct ii d) q.2.2 q.2.1 (n + 1) q.1 with
                | inl x => rw [hy] at hk9; exact hk9
                | inr q2 =>
                  rw [hy] at hk9
                  intro c1 c2 B3 p5 p6 p7 p8 p9 p10 c3 c4
                  refine hk9 c1 c2 B3 p5 p6 p7 p8 p9 p10 c3 ?_
                  rw [← hBm]
                  exact (riwq e1 a2.2).tr c4
      intro r
      induction r with
      | zero =>
        intro pl inn n h Bc Bp o5 o6 o7 o8 o9 o10 hr hh hn hsc hag hea hk9
        refine ST 0 pl inn n h h Bc Bp o5 o6 o7 o8 o9 o10 rfl hr hh hn hsc hag hea ?_
        rw [rd_m] at hk9
        cases hx : rd_i (B 4) ct ii (d + 1) t u pl ab inn n Bp with
        | inl x => rw [hx] at hk9; exact hk9
        | inr q =>
          rw [hx] at hk9
          intro c1 c2 B3 p5 p6 p7 p8 p9 p10 c3 c4
          refine hk9 c1 c2 B3 p5 p6 p7 p8 p9 p10 c3 (fun j hj => ?_)
          obtain ⟨a1, a2, a3, a4, a5, a6⟩ := c4 j hj
          exact ⟨a1, a2, a3.trans (upd_ne (by omega)), a4.trans (upd_ne (by omega)), a5, a6.trans (upd_ne (by omega))⟩
      | succ r ihr =>
        intro pl inn n h Bc Bp o5 o6 o7 o8 o9 o10 hr hh hn hsc hag hea hk9
        refine ST (r + 1) pl inn n h (h + 1) Bc Bp o5 o6 o7 o8 o9 o10 rfl hr hh hn hsc hag hea ?_
        rw [rd_m] at hk9
        cases hx : rd_i (B 4) ct ii (d + 1) t u pl ab inn n Bp with
        | inl x => rw [hx] at hk9; exact hk9
        | inr q =>
          rw [hx] at hk9
          dsimp only at hk9
          intro c1 c2 B3 p5 p6 p7 p8 p9 p10 c3 c4
          obtain ⟨x1, x2, x3, x4, x5, x6⟩ := hea
          obtain ⟨y1, y2, y3, y4, y5, y6⟩ := c4 h (by omega)
          refine ihr (pl + B 4 t) (inn + B 4 u) q.1 h B3 q.2 p5 p6 p7 p8 p9 p10 (by omega) hh c1 c2 c3 ⟨y1.trans x1, y2.trans x2, y3.trans upd_eq, y4.trans upd_eq, y5.trans x5, y6.trans upd_eq⟩ ?_
          cases hy : rd_m (fun p inn n B9 => rd_i (B 4) ct ii (d + 1) t u p ab inn n B9) (B 4 t) (B 4 u) (r + 1) (pl + B 4 t) (inn + B 4 u) q.1 q.2 with
          | inl x => rw [hy] at hk9; exact hk9
          | inr q2 =>
            rw [hy] at hk9
            intro f1 f2 B4 r5 r6 r7 r8 r9 r10 f3 f4
            refine hk9 f1 f2 B4 r5 r6 r7 r8 r9 r10 f3 (fun j hj => ?_)
            obtain ⟨a1, a2, a3, a4, a5, a6⟩ := c4 j (by omega)
            obtain ⟨b1, b2, b3, b4, b5, b6⟩ := f4 j hj
            exact ⟨b1.trans a1, b2.trans a2, b3.trans (a3.trans (upd_ne (by omega))), b4.trans (a4.trans (upd_ne (by omega))), b5.trans a5, b6.trans (a6.trans (upd_ne (by omega)))⟩
  refine ev_aload_0 0 d_mo_readAll_0 ?_
  refine ev_iconst_0 1 d_mo_readAll_1 ?_
  refine mo_puti 2 36 d_mo_readAll_2 lp_181 ?_
  refine ev_aload_0 5 d_mo_readAll_5 ?_
  refine ev_iconst_0 6 d_mo_readAll_6 ?_
  refine mo_puti 7 43 d_mo_readAll_7 lp_237 ?_
  refine ev_aload_0 10 d_mo_readAll_10 ?_
  refine ev_iload_2 11 d_mo_readAll_11 ?_
  refine ev_iload_4 12 d_mo_readAll_12 ?_
  refine ev_iconst_1 14 d_mo_readAll_14 ?_
  refine ev_iload_3 15 d_mo_readAll_15 ?_
  refine ev_iconst_m1 16 d_mo_readAll_16 ?_
  refine ev_iconst_0 17 d_mo_readAll_17 ?_
  refine mo_callv6 18 d_mo_readAll_18 hZ kc_184 (mt_await hZ _ _ _ _ _ _ (vp_in_nI (n := 0) (by decide) (by decide))) (fun F9 B9 h9 => ?_)
  obtain ⟨e1, e2⟩ := h9
  subst F9
  subst B9
  have hsw := mo_aw_sw B 0 (nI tt) (nI uu) 1 at_ (-1) 0
  have hat := mo_aw_at B 0 (nI tt) (nI uu) 1 at_ (-1) 0
  have hT32 := hW.1
  have key : ∀ rr, rd_e (B 4) ct ii 5 (nI tt, nI uu, 1, at_, -1, 0) 0 B = rr → (match rr with | .inl x => rd_e (B 4) ct ii 5 (nI tt, nI uu, 1, at_, -1, 0) 0 B = .inl x | .inr q => q.1 ≤ 200 → mo_sc B q.2 → ∀ (B2 : Nat → Nat → Int32) (q5 q6 q7 q8 q9 q10 : Option Value), mo_ag q.2 B2 → mo_wq (0) (mo_aw B 0 (nI tt) (nI uu) 1 at_ (-1) 0) B2 → EV (mo_π l D cl_A kI kZ tl Z) m_readAll (ev_E (mo_π l D cl_A kI kZ tl Z) 0 0 (mo_qv am kI kZ (fun F1 B1 => ra_q F B (rd_e (B 4) ct ii 5 (nI tt, nI uu, 1, at_, -1, 0) 0 B) F1 B1))) 0 0 21 [some (.ref (am 60)), some (.int (nI ii)), some (.int (nI tt)), some (.int at_), some (.int (nI uu)), q5, q6, q7, q8, q9, q10] [] (mo_W mo_ci am kI kZ (upd (upd F 43 (nI (q.1))) 36 (nI (0))) B2)) := by
    intro rr e
    cases rr with
    | inl m => exact e
    | inr q => exact fun b1 b2 B2 q5 q6 q7 q8 q9 q10 b3 b4 => FIN q.1 q.2 B2 q5 q6 q7 q8 q9 q10 e b1 b2 b3
  refine ev_eq (PR 5 tt uu (-1) (hW.2.1 tt htt).2.2.2 htt huu hf 0 at_ 0 0 0 (mo_aw B 0 (nI tt) (nI uu) 1 at_ (-1) 0) B none none none none none none (by omega) (by omega) (by omega) (mo_sc.rf _) hsw.ag hat ?_) (h3 := by rw [upd_c3643]; rfl)
  have h3 := key _ rfl
  unfold rd_e at h3
  rw [show (nI tt, nI uu, (1 : Int32), at_, (-1 : Int32), (0 : Int32)).1.toNatClampNeg = tt from nI_clamp (by omega), show (nI tt, nI uu, (1 : Int32), at_, (-1 : Int32), (0 : Int32)).2.1.toNatClampNeg = uu from nI_clamp (by omega)] at h3
  unfold rd_e
  rw [show (nI tt, nI uu, (1 : Int32), at_, (-1 : Int32), (0 : Int32)).1.toNatClampNeg = tt from nI_clamp (by omega), show (nI tt, nI uu, (1 : Int32), at_, (-1 : Int32), (0 : Int32)).2.1.toNatClampNeg = uu from nI_clamp (by omega)]
  exact h3
end
section
theorem d_mo_writeItem_0 : decode c_mo_writeItem 0 = .ok (.aload_n 0, 1) := by decide +kernel
theorem d_mo_writeItem_1 : decode c_mo_writeItem 1 = .ok (.getfield 111, 3) := by decide +kernel
theorem d_mo_writeItem_4 : decode c_mo_writeItem 4 = .ok (.iload_n 3, 1) := by decide +kernel
theorem d_mo_writeItem_5 : decode c_mo_writeItem 5 = .ok (.iaload, 1) := by decide +kernel
theorem d_mo_writeItem_6 : decode c_mo_writeItem 6 = .ok (.istore 4, 2) := by decide +kernel
theorem d_mo_writeItem_8 : decode c_mo_writeItem 8 = .ok (.aload_n 0, 1) := by decide +kernel
theorem d_mo_writeItem_9 : decode c_mo_writeItem 9 = .ok (.getfield 7, 3) := by decide +kernel
theorem d_mo_writeItem_12 : decode c_mo_writeItem 12 = .ok (.iload 4, 2) := by decide +kernel
theorem d_mo_writeItem_14 : decode c_mo_writeItem 14 = .ok (.iaload, 1) := by decide +kernel
theorem d_mo_writeItem_15 : decode c_mo_writeItem 15 = .ok (.istore 5, 2) := by decide +kernel
theorem d_mo_writeItem_17 : decode c_mo_writeItem 17 = .ok (.aload_n 0, 1) := by decide +kernel
theorem d_mo_writeItem_18 : decode c_mo_writeItem 18 = .ok (.getfield 117, 3) := by decide +kernel
theorem d_mo_writeItem_21 : decode c_mo_writeItem 21 = .ok (.iload_n 3, 1) := by decide +kernel
theorem d_mo_writeItem_22 : decode c_mo_writeItem 22 = .ok (.iaload, 1) := by decide +kernel
theorem d_mo_writeItem_23 : decode c_mo_writeItem 23 = .ok (.istore 6, 2) := by decide +kernel
theorem d_mo_writeItem_25 : decode c_mo_writeItem 25 = .ok (.iload 6, 2) := by decide +kernel
theorem d_mo_writeItem_27 : decode c_mo_writeItem 27 = .ok (.ifCond .lt 50, 3) := by decide +kernel
theorem d_mo_writeItem_30 : decode c_mo_writeItem 30 = .ok (.aload_n 0, 1) := by decide +kernel
theorem d_mo_writeItem_31 : decode c_mo_writeItem 31 = .ok (.getfield 129, 3) := by decide +kernel
theorem d_mo_writeItem_34 : decode c_mo_writeItem 34 = .ok (.iload_n 3, 1) := by decide +kernel
theorem d_mo_writeItem_35 : decode c_mo_writeItem 35 = .ok (.aload_n 0, 1) := by decide +kernel
theorem d_mo_writeItem_36 : decode c_mo_writeItem 36 = .ok (.getfield 7, 3) := by decide +kernel
theorem d_mo_writeItem_39 : decode c_mo_writeItem 39 = .ok (.aload_n 0, 1) := by decide +kernel
theorem d_mo_writeItem_40 : decode c_mo_writeItem 40 = .ok (.getfield 111, 3) := by decide +kernel
theorem d_mo_writeItem_43 : decode c_mo_writeItem 43 = .ok (.iload 6, 2) := by decide +kernel
theorem d_mo_writeItem_45 : decode c_mo_writeItem 45 = .ok (.iaload, 1) := by decide +kernel
theorem d_mo_writeItem_46 : decode c_mo_writeItem 46 = .ok (.iaload, 1) := by decide +kernel
theorem d_mo_writeItem_47 : decode c_mo_writeItem 47 = .ok (.bipush 8, 2) := by decide +kernel
theorem d_mo_writeItem_49 : decode c_mo_writeItem 49 = .ok (.if_icmp .ne 13, 3) := by decide +kernel
theorem d_mo_writeItem_52 : decode c_mo_writeItem 52 = .ok (.aload_n 0, 1) := by decide +kernel
theorem d_mo_writeItem_53 : decode c_mo_writeItem 53 = .ok (.getfield 132, 3) := by decide +kernel
theorem d_mo_writeItem_56 : decode c_mo_writeItem 56 = .ok (.iload 6, 2) := by decide +kernel
theorem d_mo_writeItem_58 : decode c_mo_writeItem 58 = .ok (.iaload, 1) := by decide +kernel
theorem d_mo_writeItem_59 : decode c_mo_writeItem 59 = .ok (.goto 10, 3) := by decide +kernel
theorem d_mo_writeItem_62 : decode c_mo_writeItem 62 = .ok (.aload_n 0, 1) := by decide +kernel
theorem d_mo_writeItem_63 : decode c_mo_writeItem 63 = .ok (.getfield 129, 3) := by decide +kernel
theorem d_mo_writeItem_66 : decode c_mo_writeItem 66 = .ok (.iload 6, 2) := by decide +kernel
theorem d_mo_writeItem_68 : decode c_mo_writeItem 68 = .ok (.iaload, 1) := by decide +kernel
theorem d_mo_writeItem_69 : decode c_mo_writeItem 69 = .ok (.aload_n 0, 1) := by decide +kernel
theorem d_mo_writeItem_70 : decode c_mo_writeItem 70 = .ok (.getfield 120, 3) := by decide +kernel
theorem d_mo_writeItem_73 : decode c_mo_writeItem 73 = .ok (.iload_n 3, 1) := by decide +kernel
theorem d_mo_writeItem_74 : decode c_mo_writeItem 74 = .ok (.iaload, 1) := by decide +kernel
theorem d_mo_writeItem_75 : decode c_mo_writeItem 75 = .ok (.iadd, 1) := by decide +kernel
theorem d_mo_writeItem_76 : decode c_mo_writeItem 76 = .ok (.iastore, 1) := by decide +kernel
theorem d_mo_writeItem_77 : decode c_mo_writeItem 77 = .ok (.iload 5, 2) := by decide +kernel
theorem d_mo_writeItem_79 : decode c_mo_writeItem 79 = .ok (.bipush 6, 2) := by decide +kernel
theorem d_mo_writeItem_81 : decode c_mo_writeItem 81 = .ok (.if_icmp .eq 10, 3) := by decide +kernel
theorem d_mo_writeItem_84 : decode c_mo_writeItem 84 = .ok (.iload 5, 2) := by decide +kernel
theorem d_mo_writeItem_86 : decode c_mo_writeItem 86 = .ok (.bipush 8, 2) := by decide +kernel
theorem d_mo_writeItem_88 : decode c_mo_writeItem 88 = .ok (.if_icmp .ne 181, 3) := by decide +kernel
theorem d_mo_writeItem_91 : decode c_mo_writeItem 91 = .ok (.aload_n 0, 1) := by decide +kernel
theorem d_mo_writeItem_92 : decode c_mo_writeItem 92 = .ok (.getfield 126, 3) := by decide +kernel
theorem d_mo_writeItem_95 : decode c_mo_writeItem 95 = .ok (.iload_n 3, 1) := by decide +kernel
theorem d_mo_writeItem_96 : decode c_mo_writeItem 96 = .ok (.iaload, 1) := by decide +kernel
theorem d_mo_writeItem_97 : decode c_mo_writeItem 97 = .ok (.istore 7, 2) := by decide +kernel
theorem d_mo_writeItem_99 : decode c_mo_writeItem 99 = .ok (.aload_n 0, 1) := by decide +kernel
theorem d_mo_writeItem_100 : decode c_mo_writeItem 100 = .ok (.getfield 132, 3) := by decide +kernel
theorem d_mo_writeItem_103 : decode c_mo_writeItem 103 = .ok (.iload_n 3, 1) := by decide +kernel
theorem d_mo_writeItem_104 : decode c_mo_writeItem 104 = .ok (.iload 5, 2) := by decide +kernel
theorem d_mo_writeItem_106 : decode c_mo_writeItem 106 = .ok (.bipush 6, 2) := by decide +kernel
theorem d_mo_writeItem_108 : decode c_mo_writeItem 108 = .ok (.if_icmp .ne 14, 3) := by decide +kernel
theorem d_mo_writeItem_111 : decode c_mo_writeItem 111 = .ok (.aload_n 0, 1) := by decide +kernel
theorem d_mo_writeItem_112 : decode c_mo_writeItem 112 = .ok (.iload_n 2, 1) := by decide +kernel
theorem d_mo_writeItem_113 : decode c_mo_writeItem 113 = .ok (.iload 7, 2) := by decide +kernel
theorem d_mo_writeItem_115 : decode c_mo_writeItem 115 = .ok (.iconst 1, 1) := by decide +kernel
theorem d_mo_writeItem_116 : decode c_mo_writeItem 116 = .ok (.invokevirtual 266, 3) := by decide +kernel
theorem d_mo_writeItem_119 : decode c_mo_writeItem 119 = .ok (.goto 41, 3) := by decide +kernel
theorem d_mo_writeItem_122 : decode c_mo_writeItem 122 = .ok (.aload_n 0, 1) := by decide +kernel
theorem d_mo_writeItem_123 : decode c_mo_writeItem 123 = .ok (.iload_n 2, 1) := by decide +kernel
theorem d_mo_writeItem_124 : decode c_mo_writeItem 124 = .ok (.iload 7, 2) := by decide +kernel
theorem d_mo_writeItem_126 : decode c_mo_writeItem 126 = .ok (.aload_n 0, 1) := by decide +kernel
theorem d_mo_writeItem_127 : decode c_mo_writeItem 127 = .ok (.getfield 16, 3) := by decide +kernel
theorem d_mo_writeItem_130 : decode c_mo_writeItem 130 = .ok (.aload_n 0, 1) := by decide +kernel
theorem d_mo_writeItem_131 : decode c_mo_writeItem 131 = .ok (.getfield 28, 3) := by decide +kernel
theorem d_mo_writeItem_134 : decode c_mo_writeItem 134 = .ok (.bipush 6, 2) := by decide +kernel
theorem d_mo_writeItem_136 : decode c_mo_writeItem 136 = .ok (.iload 4, 2) := by decide +kernel
theorem d_mo_writeItem_138 : decode c_mo_writeItem 138 = .ok (.imul, 1) := by decide +kernel
theorem d_mo_writeItem_139 : decode c_mo_writeItem 139 = .ok (.iaload, 1) := by decide +kernel
theorem d_mo_writeItem_140 : decode c_mo_writeItem 140 = .ok (.iaload, 1) := by decide +kernel
theorem d_mo_writeItem_141 : decode c_mo_writeItem 141 = .ok (.imul, 1) := by decide +kernel
theorem d_mo_writeItem_142 : decode c_mo_writeItem 142 = .ok (.aload_n 0, 1) := by decide +kernel
theorem d_mo_writeItem_143 : decode c_mo_writeItem 143 = .ok (.getfield 19, 3) := by decide +kernel
theorem d_mo_writeItem_146 : decode c_mo_writeItem 146 = .ok (.aload_n 0, 1) := by decide +kernel
theorem d_mo_writeItem_147 : decode c_mo_writeItem 147 = .ok (.getfield 28, 3) := by decide +kernel
theorem d_mo_writeItem_150 : decode c_mo_writeItem 150 = .ok (.bipush 6, 2) := by decide +kernel
theorem d_mo_writeItem_152 : decode c_mo_writeItem 152 = .ok (.iload 4, 2) := by decide +kernel
theorem d_mo_writeItem_154 : decode c_mo_writeItem 154 = .ok (.imul, 1) := by decide +kernel
theorem d_mo_writeItem_155 : decode c_mo_writeItem 155 = .ok (.iaload, 1) := by decide +kernel
theorem d_mo_writeItem_156 : decode c_mo_writeItem 156 = .ok (.iaload, 1) := by decide +kernel
theorem d_mo_writeItem_157 : decode c_mo_writeItem 157 = .ok (.invokevirtual 266, 3) := by decide +kernel
theorem d_mo_writeItem_160 : decode c_mo_writeItem 160 = .ok (.iastore, 1) := by decide +kernel
theorem d_mo_writeItem_161 : decode c_mo_writeItem 161 = .ok (.aload_n 0, 1) := by decide +kernel
theorem d_mo_writeItem_162 : decode c_mo_writeItem 162 = .ok (.getfield 224, 3) := by decide +kernel
theorem d_mo_writeItem_165 : decode c_mo_writeItem 165 = .ok (.ifCond .le 4, 3) := by decide +kernel
theorem d_mo_writeItem_168 : decode c_mo_writeItem 168 = .ok (.return_, 1) := by decide +kernel
theorem d_mo_writeItem_169 : decode c_mo_writeItem 169 = .ok (.aload_n 0, 1) := by decide +kernel
theorem d_mo_writeItem_170 : decode c_mo_writeItem 170 = .ok (.iload_n 2, 1) := by decide +kernel
theorem d_mo_writeItem_171 : decode c_mo_writeItem 171 = .ok (.aload_n 0, 1) := by decide +kernel
theorem d_mo_writeItem_172 : decode c_mo_writeItem 172 = .ok (.getfield 129, 3) := by decide +kernel
theorem d_mo_writeItem_175 : decode c_mo_writeItem 175 = .ok (.iload_n 3, 1) := by decide +kernel
theorem d_mo_writeItem_176 : decode c_mo_writeItem 176 = .ok (.iaload, 1) := by decide +kernel
theorem d_mo_writeItem_177 : decode c_mo_writeItem 177 = .ok (.iconst 2, 1) := by decide +kernel
theorem d_mo_writeItem_178 : decode c_mo_writeItem 178 = .ok (.aload_n 0, 1) := by decide +kernel
theorem d_mo_writeItem_179 : decode c_mo_writeItem 179 = .ok (.getfield 132, 3) := by decide +kernel
theorem d_mo_writeItem_182 : decode c_mo_writeItem 182 = .ok (.iload_n 3, 1) := by decide +kernel
theorem d_mo_writeItem_183 : decode c_mo_writeItem 183 = .ok (.iaload, 1) := by decide +kernel
theorem d_mo_writeItem_184 : decode c_mo_writeItem 184 = .ok (.invokevirtual 263, 3) := by decide +kernel
theorem d_mo_writeItem_187 : decode c_mo_writeItem 187 = .ok (.aload_n 0, 1) := by decide +kernel
theorem d_mo_writeItem_188 : decode c_mo_writeItem 188 = .ok (.iload_n 2, 1) := by decide +kernel
theorem d_mo_writeItem_189 : decode c_mo_writeItem 189 = .ok (.aload_n 0, 1) := by decide +kernel
theorem d_mo_writeItem_190 : decode c_mo_writeItem 190 = .ok (.getfield 129, 3) := by decide +kernel
theorem d_mo_writeItem_193 : decode c_mo_writeItem 193 = .ok (.iload_n 3, 1) := by decide +kernel
theorem d_mo_writeItem_194 : decode c_mo_writeItem 194 = .ok (.iaload, 1) := by decide +kernel
theorem d_mo_writeItem_195 : decode c_mo_writeItem 195 = .ok (.iconst 2, 1) := by decide +kernel
theorem d_mo_writeItem_196 : decode c_mo_writeItem 196 = .ok (.iadd, 1) := by decide +kernel
theorem d_mo_writeItem_197 : decode c_mo_writeItem 197 = .ok (.iconst 2, 1) := by decide +kernel
theorem d_mo_writeItem_198 : decode c_mo_writeItem 198 = .ok (.iload 7, 2) := by decide +kernel
theorem d_mo_writeItem_200 : decode c_mo_writeItem 200 = .ok (.invokevirtual 263, 3) := by decide +kernel
theorem d_mo_writeItem_203 : decode c_mo_writeItem 203 = .ok (.iconst 0, 1) := by decide +kernel
theorem d_mo_writeItem_204 : decode c_mo_writeItem 204 = .ok (.istore 8, 2) := by decide +kernel
theorem d_mo_writeItem_206 : decode c_mo_writeItem 206 = .ok (.iload 8, 2) := by decide +kernel
theorem d_mo_writeItem_208 : decode c_mo_writeItem 208 = .ok (.iload 7, 2) := by decide +kernel
theorem d_mo_writeItem_210 : decode c_mo_writeItem 210 = .ok (.if_icmp .ge 56, 3) := by decide +kernel
theorem d_mo_writeItem_213 : decode c_mo_writeItem 213 = .ok (.iload 5, 2) := by decide +kernel
theorem d_mo_writeItem_215 : decode c_mo_writeItem 215 = .ok (.bipush 6, 2) := by decide +kernel
theorem d_mo_writeItem_217 : decode c_mo_writeItem 217 = .ok (.if_icmp .ne 49, 3) := by decide +kernel
theorem d_mo_writeItem_220 : decode c_mo_writeItem 220 = .ok (.aload_n 0, 1) := by decide +kernel
theorem d_mo_writeItem_221 : decode c_mo_writeItem 221 = .ok (.getfield 37, 3) := by decide +kernel
theorem d_mo_writeItem_224 : decode c_mo_writeItem 224 = .ok (.sipush 256, 3) := by decide +kernel
theorem d_mo_writeItem_227 : decode c_mo_writeItem 227 = .ok (.iload_n 2, 1) := by decide +kernel
theorem d_mo_writeItem_228 : decode c_mo_writeItem 228 = .ok (.imul, 1) := by decide +kernel
theorem d_mo_writeItem_229 : decode c_mo_writeItem 229 = .ok (.aload_n 0, 1) := by decide +kernel
theorem d_mo_writeItem_230 : decode c_mo_writeItem 230 = .ok (.getfield 132, 3) := by decide +kernel
theorem d_mo_writeItem_233 : decode c_mo_writeItem 233 = .ok (.iload_n 3, 1) := by decide +kernel
theorem d_mo_writeItem_234 : decode c_mo_writeItem 234 = .ok (.iaload, 1) := by decide +kernel
theorem d_mo_writeItem_235 : decode c_mo_writeItem 235 = .ok (.iadd, 1) := by decide +kernel
theorem d_mo_writeItem_236 : decode c_mo_writeItem 236 = .ok (.iload 8, 2) := by decide +kernel
theorem d_mo_writeItem_238 : decode c_mo_writeItem 238 = .ok (.iadd, 1) := by decide +kernel
theorem d_mo_writeItem_239 : decode c_mo_writeItem 239 = .ok (.aload_n 0, 1) := by decide +kernel
theorem d_mo_writeItem_240 : decode c_mo_writeItem 240 = .ok (.getfield 37, 3) := by decide +kernel
theorem d_mo_writeItem_243 : decode c_mo_writeItem 243 = .ok (.sipush 256, 3) := by decide +kernel
theorem d_mo_writeItem_246 : decode c_mo_writeItem 246 = .ok (.iload_n 1, 1) := by decide +kernel
theorem d_mo_writeItem_247 : decode c_mo_writeItem 247 = .ok (.imul, 1) := by decide +kernel
theorem d_mo_writeItem_248 : decode c_mo_writeItem 248 = .ok (.aload_n 0, 1) := by decide +kernel
theorem d_mo_writeItem_249 : decode c_mo_writeItem 249 = .ok (.getfield 123, 3) := by decide +kernel
theorem d_mo_writeItem_252 : decode c_mo_writeItem 252 = .ok (.iload_n 3, 1) := by decide +kernel
theorem d_mo_writeItem_253 : decode c_mo_writeItem 253 = .ok (.iaload, 1) := by decide +kernel
theorem d_mo_writeItem_254 : decode c_mo_writeItem 254 = .ok (.iadd, 1) := by decide +kernel
theorem d_mo_writeItem_255 : decode c_mo_writeItem 255 = .ok (.iload 8, 2) := by decide +kernel
theorem d_mo_writeItem_257 : decode c_mo_writeItem 257 = .ok (.iadd, 1) := by decide +kernel
theorem d_mo_writeItem_258 : decode c_mo_writeItem 258 = .ok (.iaload, 1) := by decide +kernel
theorem d_mo_writeItem_259 : decode c_mo_writeItem 259 = .ok (.iastore, 1) := by decide +kernel
theorem d_mo_writeItem_260 : decode c_mo_writeItem 260 = .ok (.iinc 8 1, 3) := by decide +kernel
theorem d_mo_writeItem_263 : decode c_mo_writeItem 263 = .ok (.goto (-57), 3) := by decide +kernel
theorem d_mo_writeItem_266 : decode c_mo_writeItem 266 = .ok (.goto 102, 3) := by decide +kernel
theorem d_mo_writeItem_269 : decode c_mo_writeItem 269 = .ok (.iload 5, 2) := by decide +kernel
theorem d_mo_writeItem_271 : decode c_mo_writeItem 271 = .ok (.bipush 10, 2) := by decide +kernel
theorem d_mo_writeItem_273 : decode c_mo_writeItem 273 = .ok (.if_icmp .le 12, 3) := by decide +kernel
theorem d_mo_writeItem_276 : decode c_mo_writeItem 276 = .ok (.aload_n 0, 1) := by decide +kernel
theorem d_mo_writeItem_277 : decode c_mo_writeItem 277 = .ok (.iload_n 2, 1) := by decide +kernel
theorem d_mo_writeItem_278 : decode c_mo_writeItem 278 = .ok (.iload_n 3, 1) := by decide +kernel
theorem d_mo_writeItem_279 : decode c_mo_writeItem 279 = .ok (.invokevirtual 269, 3) := by decide +kernel
theorem d_mo_writeItem_282 : decode c_mo_writeItem 282 = .ok (.goto 86, 3) := by decide +kernel
theorem d_mo_writeItem_285 : decode c_mo_writeItem 285 = .ok (.iload 5, 2) := by decide +kernel
theorem d_mo_writeItem_287 : decode c_mo_writeItem 287 = .ok (.bipush 9, 2) := by decide +kernel
theorem d_mo_writeItem_289 : decode c_mo_writeItem 289 = .ok (.if_icmp .eq 79, 3) := by decide +kernel
theorem d_mo_writeItem_292 : decode c_mo_writeItem 292 = .ok (.iload 5, 2) := by decide +kernel
theorem d_mo_writeItem_294 : decode c_mo_writeItem 294 = .ok (.bipush 10, 2) := by decide +kernel
theorem d_mo_writeItem_296 : decode c_mo_writeItem 296 = .ok (.if_icmp .ne 7, 3) := by decide +kernel
theorem d_mo_writeItem_299 : decode c_mo_writeItem 299 = .ok (.iconst 1, 1) := by decide +kernel
theorem d_mo_writeItem_300 : decode c_mo_writeItem 300 = .ok (.goto 10, 3) := by decide +kernel
theorem d_mo_writeItem_303 : decode c_mo_writeItem 303 = .ok (.aload_n 0, 1) := by decide +kernel
theorem d_mo_writeItem_304 : decode c_mo_writeItem 304 = .ok (.getfield 16, 3) := by decide +kernel
theorem d_mo_writeItem_307 : decode c_mo_writeItem 307 = .ok (.iload 4, 2) := by decide +kernel
theorem d_mo_writeItem_309 : decode c_mo_writeItem 309 = .ok (.iaload, 1) := by decide +kernel
theorem d_mo_writeItem_310 : decode c_mo_writeItem 310 = .ok (.istore 7, 2) := by decide +kernel
theorem d_mo_writeItem_312 : decode c_mo_writeItem 312 = .ok (.iconst 0, 1) := by decide +kernel
theorem d_mo_writeItem_313 : decode c_mo_writeItem 313 = .ok (.istore 8, 2) := by decide +kernel
theorem d_mo_writeItem_315 : decode c_mo_writeItem 315 = .ok (.iload 8, 2) := by decide +kernel
theorem d_mo_writeItem_317 : decode c_mo_writeItem 317 = .ok (.iload 7, 2) := by decide +kernel
theorem d_mo_writeItem_319 : decode c_mo_writeItem 319 = .ok (.if_icmp .ge 49, 3) := by decide +kernel
theorem d_mo_writeItem_322 : decode c_mo_writeItem 322 = .ok (.aload_n 0, 1) := by decide +kernel
theorem d_mo_writeItem_323 : decode c_mo_writeItem 323 = .ok (.getfield 37, 3) := by decide +kernel
theorem d_mo_writeItem_326 : decode c_mo_writeItem 326 = .ok (.sipush 256, 3) := by decide +kernel
theorem d_mo_writeItem_329 : decode c_mo_writeItem 329 = .ok (.iload_n 2, 1) := by decide +kernel
theorem d_mo_writeItem_330 : decode c_mo_writeItem 330 = .ok (.imul, 1) := by decide +kernel
theorem d_mo_writeItem_331 : decode c_mo_writeItem 331 = .ok (.aload_n 0, 1) := by decide +kernel
theorem d_mo_writeItem_332 : decode c_mo_writeItem 332 = .ok (.getfield 129, 3) := by decide +kernel
theorem d_mo_writeItem_335 : decode c_mo_writeItem 335 = .ok (.iload_n 3, 1) := by decide +kernel
theorem d_mo_writeItem_336 : decode c_mo_writeItem 336 = .ok (.iaload, 1) := by decide +kernel
theorem d_mo_writeItem_337 : decode c_mo_writeItem 337 = .ok (.iadd, 1) := by decide +kernel
theorem d_mo_writeItem_338 : decode c_mo_writeItem 338 = .ok (.iload 8, 2) := by decide +kernel
theorem d_mo_writeItem_340 : decode c_mo_writeItem 340 = .ok (.iadd, 1) := by decide +kernel
theorem d_mo_writeItem_341 : decode c_mo_writeItem 341 = .ok (.aload_n 0, 1) := by decide +kernel
theorem d_mo_writeItem_342 : decode c_mo_writeItem 342 = .ok (.getfield 37, 3) := by decide +kernel
theorem d_mo_writeItem_345 : decode c_mo_writeItem 345 = .ok (.sipush 256, 3) := by decide +kernel
theorem d_mo_writeItem_348 : decode c_mo_writeItem 348 = .ok (.iload_n 1, 1) := by decide +kernel
theorem d_mo_writeItem_349 : decode c_mo_writeItem 349 = .ok (.imul, 1) := by decide +kernel
theorem d_mo_writeItem_350 : decode c_mo_writeItem 350 = .ok (.aload_n 0, 1) := by decide +kernel
theorem d_mo_writeItem_351 : decode c_mo_writeItem 351 = .ok (.getfield 114, 3) := by decide +kernel
theorem d_mo_writeItem_354 : decode c_mo_writeItem 354 = .ok (.iload_n 3, 1) := by decide +kernel
theorem d_mo_writeItem_355 : decode c_mo_writeItem 355 = .ok (.iaload, 1) := by decide +kernel
theorem d_mo_writeItem_356 : decode c_mo_writeItem 356 = .ok (.iadd, 1) := by decide +kernel
theorem d_mo_writeItem_357 : decode c_mo_writeItem 357 = .ok (.iload 8, 2) := by decide +kernel
theorem d_mo_writeItem_359 : decode c_mo_writeItem 359 = .ok (.iadd, 1) := by decide +kernel
theorem d_mo_writeItem_360 : decode c_mo_writeItem 360 = .ok (.iaload, 1) := by decide +kernel
theorem d_mo_writeItem_361 : decode c_mo_writeItem 361 = .ok (.iastore, 1) := by decide +kernel
theorem d_mo_writeItem_362 : decode c_mo_writeItem 362 = .ok (.iinc 8 1, 3) := by decide +kernel
theorem d_mo_writeItem_365 : decode c_mo_writeItem 365 = .ok (.goto (-50), 3) := by decide +kernel
theorem d_mo_writeItem_368 : decode c_mo_writeItem 368 = .ok (.return_, 1) := by decide +kernel
theorem d_mo_pass_0 : decode c_mo_pass 0 = .ok (.aload_n 0, 1) := by decide +kernel
theorem d_mo_pass_1 : decode c_mo_pass 1 = .ok (.iconst 0, 1) := by decide +kernel
theorem d_mo_pass_2 : decode c_mo_pass 2 = .ok (.putfield 224, 3) := by decide +kernel
theorem d_mo_pass_5 : decode c_mo_pass 5 = .ok (.aload_n 0, 1) := by decide +kernel
theorem d_mo_pass_6 : decode c_mo_pass 6 = .ok (.iconst 0, 1) := by decide +kernel
theorem d_mo_pass_7 : decode c_mo_pass 7 = .ok (.putfield 260, 3) := by decide +kernel
theorem d_mo_pass_10 : decode c_mo_pass 10 = .ok (.aload_n 0, 1) := by decide +kernel
theorem d_mo_pass_11 : decode c_mo_pass 11 = .ok (.iload_n 1, 1) := by decide +kernel
theorem d_mo_pass_12 : decode c_mo_pass 12 = .ok (.iload_n 2, 1) := by decide +kernel
theorem d_mo_pass_13 : decode c_mo_pass 13 = .ok (.iload_n 3, 1) := by decide +kernel
theorem d_mo_pass_14 : decode c_mo_pass 14 = .ok (.iload 5, 2) := by decide +kernel
theorem d_mo_pass_16 : decode c_mo_pass 16 = .ok (.invokevirtual 272, 3) := by decide +kernel
theorem d_mo_pass_19 : decode c_mo_pass 19 = .ok (.aload_n 0, 1) := by decide +kernel
theorem d_mo_pass_20 : decode c_mo_pass 20 = .ok (.getfield 224, 3) := by decide +kernel
theorem d_mo_pass_23 : decode c_mo_pass 23 = .ok (.ifCond .ne 26, 3) := by decide +kernel
theorem d_mo_pass_26 : decode c_mo_pass 26 = .ok (.aload_n 0, 1) := by decide +kernel
theorem d_mo_pass_27 : decode c_mo_pass 27 = .ok (.iload 4, 2) := by decide +kernel
theorem d_mo_pass_29 : decode c_mo_pass 29 = .ok (.aload_n 0, 1) := by decide +kernel
theorem d_mo_pass_30 : decode c_mo_pass 30 = .ok (.getfield 16, 3) := by decide +kernel
theorem d_mo_pass_33 : decode c_mo_pass 33 = .ok (.iload 5, 2) := by decide +kernel
theorem d_mo_pass_35 : decode c_mo_pass 35 = .ok (.iaload, 1) := by decide +kernel
theorem d_mo_pass_36 : decode c_mo_pass 36 = .ok (.aload_n 0, 1) := by decide +kernel
theorem d_mo_pass_37 : decode c_mo_pass 37 = .ok (.getfield 19, 3) := by decide +kernel
theorem d_mo_pass_40 : decode c_mo_pass 40 = .ok (.iload 5, 2) := by decide +kernel
theorem d_mo_pass_42 : decode c_mo_pass 42 = .ok (.iaload, 1) := by decide +kernel
theorem d_mo_pass_43 : decode c_mo_pass 43 = .ok (.invokevirtual 266, 3) := by decide +kernel
theorem d_mo_pass_46 : decode c_mo_pass 46 = .ok (.goto 4, 3) := by decide +kernel
theorem d_mo_pass_49 : decode c_mo_pass 49 = .ok (.iconst 0, 1) := by decide +kernel
theorem d_mo_pass_50 : decode c_mo_pass 50 = .ok (.istore 6, 2) := by decide +kernel
theorem d_mo_pass_52 : decode c_mo_pass 52 = .ok (.aload_n 0, 1) := by decide +kernel
theorem d_mo_pass_53 : decode c_mo_pass 53 = .ok (.getfield 129, 3) := by decide +kernel
theorem d_mo_pass_56 : decode c_mo_pass 56 = .ok (.iconst 0, 1) := by decide +kernel
theorem d_mo_pass_57 : decode c_mo_pass 57 = .ok (.iload 6, 2) := by decide +kernel
theorem d_mo_pass_59 : decode c_mo_pass 59 = .ok (.iastore, 1) := by decide +kernel
theorem d_mo_pass_60 : decode c_mo_pass 60 = .ok (.iconst 0, 1) := by decide +kernel
theorem d_mo_pass_61 : decode c_mo_pass 61 = .ok (.istore 7, 2) := by decide +kernel
theorem d_mo_pass_63 : decode c_mo_pass 63 = .ok (.iload 7, 2) := by decide +kernel
theorem d_mo_pass_65 : decode c_mo_pass 65 = .ok (.aload_n 0, 1) := by decide +kernel
theorem d_mo_pass_66 : decode c_mo_pass 66 = .ok (.getfield 237, 3) := by decide +kernel
theorem d_mo_pass_69 : decode c_mo_pass 69 = .ok (.if_icmp .ge 25, 3) := by decide +kernel
theorem d_mo_pass_72 : decode c_mo_pass 72 = .ok (.aload_n 0, 1) := by decide +kernel
theorem d_mo_pass_73 : decode c_mo_pass 73 = .ok (.getfield 224, 3) := by decide +kernel
theorem d_mo_pass_76 : decode c_mo_pass 76 = .ok (.ifCond .ne 18, 3) := by decide +kernel
theorem d_mo_pass_79 : decode c_mo_pass 79 = .ok (.aload_n 0, 1) := by decide +kernel
theorem d_mo_pass_80 : decode c_mo_pass 80 = .ok (.iload_n 1, 1) := by decide +kernel
theorem d_mo_pass_81 : decode c_mo_pass 81 = .ok (.iload 4, 2) := by decide +kernel
theorem d_mo_pass_83 : decode c_mo_pass 83 = .ok (.iload 7, 2) := by decide +kernel
theorem d_mo_pass_85 : decode c_mo_pass 85 = .ok (.invokevirtual 275, 3) := by decide +kernel
theorem d_mo_pass_88 : decode c_mo_pass 88 = .ok (.iinc 7 1, 3) := by decide +kernel
theorem d_mo_pass_91 : decode c_mo_pass 91 = .ok (.goto (-28), 3) := by decide +kernel
theorem d_mo_pass_94 : decode c_mo_pass 94 = .ok (.iconst 0, 1) := by decide +kernel
theorem d_mo_pass_95 : decode c_mo_pass 95 = .ok (.istore 7, 2) := by decide +kernel
theorem d_mo_pass_97 : decode c_mo_pass 97 = .ok (.iload 7, 2) := by decide +kernel
theorem d_mo_pass_99 : decode c_mo_pass 99 = .ok (.bipush 102, 2) := by decide +kernel
theorem d_mo_pass_101 : decode c_mo_pass 101 = .ok (.if_icmp .ge 64, 3) := by decide +kernel
theorem d_mo_pass_104 : decode c_mo_pass 104 = .ok (.aload_n 0, 1) := by decide +kernel
theorem d_mo_pass_105 : decode c_mo_pass 105 = .ok (.getfield 46, 3) := by decide +kernel
theorem d_mo_pass_108 : decode c_mo_pass 108 = .ok (.iload 7, 2) := by decide +kernel
theorem d_mo_pass_110 : decode c_mo_pass 110 = .ok (.aload_n 0, 1) := by decide +kernel
theorem d_mo_pass_111 : decode c_mo_pass 111 = .ok (.getfield 46, 3) := by decide +kernel
theorem d_mo_pass_114 : decode c_mo_pass 114 = .ok (.iload 7, 2) := by decide +kernel
theorem d_mo_pass_116 : decode c_mo_pass 116 = .ok (.baload, 1) := by decide +kernel
theorem d_mo_pass_117 : decode c_mo_pass 117 = .ok (.ifCond .eq 24, 3) := by decide +kernel
theorem d_mo_pass_120 : decode c_mo_pass 120 = .ok (.aload_n 0, 1) := by decide +kernel
theorem d_mo_pass_121 : decode c_mo_pass 121 = .ok (.getfield 59, 3) := by decide +kernel
theorem d_mo_pass_124 : decode c_mo_pass 124 = .ok (.iload 7, 2) := by decide +kernel
theorem d_mo_pass_126 : decode c_mo_pass 126 = .ok (.baload, 1) := by decide +kernel
theorem d_mo_pass_127 : decode c_mo_pass 127 = .ok (.ifCond .eq 10, 3) := by decide +kernel
theorem d_mo_pass_130 : decode c_mo_pass 130 = .ok (.aload_n 0, 1) := by decide +kernel
theorem d_mo_pass_131 : decode c_mo_pass 131 = .ok (.getfield 224, 3) := by decide +kernel
theorem d_mo_pass_134 : decode c_mo_pass 134 = .ok (.ifCond .eq 7, 3) := by decide +kernel
theorem d_mo_pass_137 : decode c_mo_pass 137 = .ok (.iconst 1, 1) := by decide +kernel
theorem d_mo_pass_138 : decode c_mo_pass 138 = .ok (.goto 4, 3) := by decide +kernel
theorem d_mo_pass_141 : decode c_mo_pass 141 = .ok (.iconst 0, 1) := by decide +kernel
theorem d_mo_pass_142 : decode c_mo_pass 142 = .ok (.bastore, 1) := by decide +kernel
theorem d_mo_pass_143 : decode c_mo_pass 143 = .ok (.aload_n 0, 1) := by decide +kernel
theorem d_mo_pass_144 : decode c_mo_pass 144 = .ok (.getfield 59, 3) := by decide +kernel
theorem d_mo_pass_147 : decode c_mo_pass 147 = .ok (.iload 7, 2) := by decide +kernel
theorem d_mo_pass_149 : decode c_mo_pass 149 = .ok (.iconst 0, 1) := by decide +kernel
theorem d_mo_pass_150 : decode c_mo_pass 150 = .ok (.bastore, 1) := by decide +kernel
theorem d_mo_pass_151 : decode c_mo_pass 151 = .ok (.aload_n 0, 1) := by decide +kernel
theorem d_mo_pass_152 : decode c_mo_pass 152 = .ok (.getfield 62, 3) := by decide +kernel
theorem d_mo_pass_155 : decode c_mo_pass 155 = .ok (.iload 7, 2) := by decide +kernel
theorem d_mo_pass_157 : decode c_mo_pass 157 = .ok (.iconst 0, 1) := by decide +kernel
theorem d_mo_pass_158 : decode c_mo_pass 158 = .ok (.iastore, 1) := by decide +kernel
theorem d_mo_pass_159 : decode c_mo_pass 159 = .ok (.iinc 7 1, 3) := by decide +kernel
theorem d_mo_pass_162 : decode c_mo_pass 162 = .ok (.goto (-65), 3) := by decide +kernel
theorem d_mo_pass_165 : decode c_mo_pass 165 = .ok (.iload 6, 2) := by decide +kernel
theorem d_mo_pass_167 : decode c_mo_pass 167 = .ok (.ireturn, 1) := by decide +kernel
end
section
/-- n bytes from a on are laid from b on -/
def mo_cp (f : Nat → Int32) (a b : Nat) : Nat → Nat → Int32
  | 0 => f
  | n + 1 => upd (mo_cp f a b n) (b + n) (mo_cp f a b n (a + n))
/-- where an item goes -/
def wi_to (B : Nat → Nat → Int32) (it : Nat) : Int32 := if B 46 it < 0 then B 50 it else (if B 2 (B 44 (B 46 it).toNatClampNeg).toNatClampNeg = 8 then B 51 (B 46 it).toNatClampNeg else B 50 (B 46 it).toNatClampNeg) + B 47 it
def wi_t (B : Nat → Nat → Int32) (it to : Nat) : Nat → Nat → Int32 := va_up B 50 (upd (B 50) it (nI to))
/-- the bytes of a text or a list: its room, its place and number, a text's bytes -/
def wi_f (B : Nat → Nat → Int32) (ii J to pl k mn fr : Nat) (tx : Prop) [Decidable tx] : Nat → Int32 := if tx then mo_cp (mo_pb (mo_pb (mo_zf (B 13) (256 * J + pl) k) (256 * J + to) (nI pl) 2) (256 * J + (to + 2)) (nI mn) 2) (256 * ii + fr) (256 * J + pl) mn else mo_pb (mo_pb (mo_zf (B 13) (256 * J + pl) k) (256 * J + to) (nI pl) 2) (256 * J + (to + 2)) (nI mn) 2
def wi_l (F : Nat → Int32) (B : Nat → Nat → Int32) (ii J it to hp k al mn fr : Nat) (tx : Prop) [Decidable tx] : (Nat → Int32) × (Nat → Nat → Int32) :=
  if 256 < mo_ut hp al + k then (mo_fl F 11 (nI (mo_ut hp al)), va_up (wi_t B it to) 51 (upd (B 51) it 0))
  else (F, va_up (va_up (va_up (va_up (wi_t B it to) 13 (mo_zf (B 13) (256 * J + mo_ut hp al) k)) 14 (upd (B 14) J (nI (mo_ut hp al + k)))) 51 (upd (B 51) it (nI (mo_ut hp al)))) 13 (wi_f B ii J to (mo_ut hp al) k mn fr tx))
/-- an item is written: the numbers (a fault among them) and the tables behind it -/
def wi_1 (F : Nat → Int32) (B : Nat → Nat → Int32) (ii J it uu to : Nat) : (Nat → Int32) × (Nat → Nat → Int32) :=
  if B 2 uu = 6 then wi_l F B ii J it to (B 14 J).toNatClampNeg (B 49 it).toNatClampNeg 1 (B 49 it).toNatClampNeg (B 48 it).toNatClampNeg True else
  if B 2 uu = 8 then wi_l F B ii J it to (B 14 J).toNatClampNeg ((B 49 it).toNatClampNeg * (B 4 (B 8 (6 * uu)).toNatClampNeg).toNatClampNeg) (B 5 (B 8 (6 * uu)).toNatClampNeg).toNatClampNeg (B 49 it).toNatClampNeg (B 48 it).toNatClampNeg False else
  if ¬ B 2 uu ≤ 10 then mo_wh F (wi_t B it to) J it else
  if B 2 uu = 9 then (F, wi_t B it to) else
  (F, va_up (wi_t B it to) 13 (mo_cp (B 13) (256 * ii + (B 45 it).toNatClampNeg) (256 * J + to) (if B 2 uu = 10 then 1 else (B 4 uu).toNatClampNeg)))
theorem wi_t0 {B : Nat → Nat → Int32} {it to : Nat} (h : B 50 it = nI to) : wi_t B it to = B := by
  rw [wi_t, upd_id h, mo_upid]
theorem mo_ut1 (hp : Nat) : mo_ut hp 1 = hp := by rw [mo_ut, Nat.div_one, Nat.mul_one]; omega

set_option maxHeartbeats 4000000 in
set_option maxRecDepth 100000 in
theorem mt_writeItem {l : Launch} {D : va_G} {tl : List (ClassId × FieldType)} {Z : (Nat → Prop) → State → Heap → Prop} {kI kZ : ClassId} {am : Nat → Nat} {F : Nat → Int32} {B : Nat → Nat → Int32} (hZ : ev_Zok Z) (ii : Nat) (J : Nat) (it : Nat) (hii : ii < 6) (hJ : J < 6) (hit : it < 200) (NT : Nat) (hNT : NT ≤ 32) (uu : Nat) (huu : uu < NT) (hU : B 44 it = nI uu) (to : Nat) (hto : wi_to B it = nI to) (hab : ¬ B 46 it < 0 → vp_in (B 46 it) 200 ∧ vp_in (B 44 (B 46 it).toNatClampNeg) 32) (h0 : F 54 = 0) (mn hp : Nat) (hhp : B 14 J = nI hp) (hp2 : hp ≤ 256) (hk68 : B 2 uu = 6 ∨ B 2 uu = 8 → B 49 it = nI mn ∧ mn ≤ 65535 ∧ to + 4 ≤ 256) (h6 : B 2 uu = 6 → ∃ fr, B 48 it = nI fr ∧ fr + mn ≤ 256) (h8l : B 2 uu = 8 → ∃ pu szp alp, B 8 (6 * uu) = nI pu ∧ pu < NT ∧ B 4 pu = nI szp ∧ szp ≤ 96 ∧ B 5 pu = nI alp ∧ 1 ≤ alp ∧ alp ≤ 8) (hha : ¬ B 2 uu ≤ 10 → vp_in (B 48 it) 102 ∧ to + 1 ≤ 256 ∧ vp_in (F 52) 16) (hpl : ¬ B 2 uu = 6 → ¬ B 2 uu = 8 → B 2 uu ≤ 10 → ¬ B 2 uu = 9 → ∃ pp sz, B 45 it = nI pp ∧ B 4 uu = nI sz ∧ pp + (if B 2 uu = 10 then 1 else sz) ≤ 256 ∧ to + (if B 2 uu = 10 then 1 else sz) ≤ 256) : MT (mo_π l D cl_A kI kZ tl Z) m_writeItem 0 0 [.ref (am 60), .int (nI ii), .int (nI J), .int (nI it)] (mo_W mo_ci am kI kZ F B) (mo_qv am kI kZ (fun F1 B1 => F1 = (wi_1 F B ii J it uu to).1 ∧ B1 = (wi_1 F B ii J it uu to).2)) := by
  refine mt_of mo_pl rfl (Nat.le_of_ble_eq_true rfl) (ev_eq (lv' := [some (.ref (am 60)), some (.int (nI ii)), some (.int (nI J)), some (.int (nI it)), none, none, none, none, none]) ?_)
  have L206 : B 2 uu = 6 → ∀ fr, B 48 it = nI fr → fr + mn ≤ 256 → ¬ 256 < mo_ut hp 1 + mn → ∀ m j : Nat, mn - j < m → j ≤ mn → EV (mo_π l D cl_A kI kZ tl Z) m_writeItem (ev_E (mo_π l D cl_A kI kZ tl Z) 0 0 (mo_qv am kI kZ (fun F1 B1 => F1 = (wi_1 F B ii J it uu to).1 ∧ B1 = (wi_1 F B ii J it uu to).2))) 0 0 206 [some (.ref (am 60)), some (.int (nI ii)), some (.int (nI J)), some (.int (nI it)), some (.int (nI uu)), some (.int (B 2 uu)), some (.int (B 46 it)), some (.int (nI mn)), some (.int (nI j))] [] (mo_W mo_ci am kI kZ F (va_up (va_up (va_up (va_up (wi_t B it to) 13 (mo_zf (B 13) (256 * J + mo_ut hp 1) mn)) 14 (upd (B 14) J (nI (mo_ut hp 1 + mn)))) 51 (upd (B 51) it (nI (mo_ut hp 1)))) 13 (mo_cp (mo_pb (mo_pb (mo_zf (B 13) (256 * J + mo_ut hp 1) mn) (256 * J + to) (nI (mo_ut hp 1)) 2) (256 * J + (to + 2)) (nI mn) 2) (256 * ii + fr) (256 * J + mo_ut hp 1) j))) := by
    intro hk6 fr hfr hfr2 hq
    obtain ⟨hm, hmn, hto4⟩ := hk68 (Or.inl hk6)
    intro m
    induction m with
    | zero => intro j h; omega
    | succ m ih =>
      intro j hmm hj
      refine ev_iload_8 206 d_mo_writeItem_206 ?_
      refine ev_iload_7 208 d_mo_writeItem_208 ?_
      refine ev_icmpge 210 266 d_mo_writeItem_210 (fun c210 => ?_) (fun c210 => ?_)
      · have h210 := n_le mn j c210
        have ej : j = mn := by omega
        subst j
        refine ev_goto 266 368 d_mo_writeItem_266 ?_
        refine ev_vret 368 d_mo_writeItem_368 rfl ?_
        exact ⟨_, _, rfl, rfl, by rw [wi_1, if_pos hk6, hhp, hm, hfr, nI_clamp (by omega), nI_clamp (by omega), nI_clamp (by omega), wi_l, if_neg hq], by rw [wi_1, if_pos hk6, hhp, hm, hfr, nI_clamp (by omega), nI_clamp (by omega), nI_clamp (by omega), wi_l, if_neg hq, wi_f, if_pos trivial]⟩
      · have h210 := n_nle mn j c210
        refine ev_iload_5 213 d_mo_writeItem_213 ?_
        refine ev_bipush (6) 215 d_mo_writeItem_215 (by decide) ?_
        refine ev_icmpne 217 266 d_mo_writeItem_217 (fun c217 => ?_) (fun c217 => ?_)
        · exact absurd hk6 c217
        · refine ev_aload_0 220 d_mo_writeItem_220 ?_
          refine mo_getr 221 9 13 d_mo_writeItem_221 lk_37 ?_
          refine ev_sipush (256) 224 d_mo_writeItem_224 (by decide) ?_
          refine ev_iload_2 227 d_mo_writeItem_227 ?_
          refine ev_imul 228 d_mo_writeItem_228 ?_
          refine ev_aload_0 229 d_mo_writeItem_229 ?_
          refine mo_getr 230 39 51 d_mo_writeItem_230 lk_132 ?_
          refine ev_iload_3 233 d_mo_writeItem_233 ?_
          refine mo_aldn (j := it) 234 39 51 d_mo_writeItem_234 (by exact hit) ?_
          refine ev_topi (nI (mo_ut hp 1)) (show upd (B 51) it (nI (mo_ut hp 1)) it = nI (mo_ut hp 1) from upd_eq) ?_
          refine ev_iadd 235 d_mo_writeItem_235 ?_
          refine ev_iload_8 236 d_mo_writeItem_236 ?_
          refine ev_iadd 238 d_mo_writeItem_238 ?_
          refine ev_aload_0 239 d_mo_writeItem_239 ?_
          refine mo_getr 240 9 13 d_mo_writeItem_240 lk_37 ?_
          refine ev_sipush (256) 243 d_mo_writeItem_243 (by decide) ?_
          refine ev_iload_1 246 d_mo_writeItem_246 ?_
          refine ev_imul 247 d_mo_writeItem_247 ?_
          refine ev_aload_0 248 d_mo_writeItem_248 ?_
          refine mo_getr 249 36 48 d_mo_writeItem_249 lk_123 ?_
          refine ev_iload_3 252 d_mo_writeItem_252 ?_
          refine mo_aldn (j := it) 253 36 48 d_mo_writeItem_253 (by exact hit) ?_
          refine ev_topi (nI fr) (show B 48 it = nI fr from hfr) ?_
          refine ev_iadd 254 d_mo_writeItem_254 ?_
          refine ev_iload_8 255 d_mo_writeItem_255 ?_
          refine ev_iadd 257 d_mo_writeItem_257 ?_
          refine ev_topi (nI (256 * ii + fr + j)) (by rw [n_256, pk_mul, nI_add, nI_add]) ?_
          refine mo_aldn (j := 256 * ii + fr + j) 258 9 13 d_mo_writeItem_258 (by show 256 * ii + fr + j < 1536; omega) ?_
          refine ev_sndi (nI (256 * J + mo_ut hp 1 + j)) (by rw [n_256, pk_mul, nI_add, nI_add]) ?_
          refine mo_astn (j := 256 * J + mo_ut hp 1 + j) 259 9 13 d_mo_writeItem_259 (by show 256 * J + mo_ut hp 1 + j < 1536; omega) ?_
          refine ev_iinc_8 260 d_mo_writeItem_260 ?_
          refine ev_goto 263 206 d_mo_writeItem_263 ?_
          exact ev_eq (ih (j + 1) (by omega) (by omega)) (h1 := by rw [n_i1]) (h3 := congrArg (mo_W mo_ci am kI kZ _) (bx_uu _ 13 _ _))
  have L315 : ∀ (q pp : Nat), ¬ B 2 uu = 6 → ¬ B 2 uu = 8 → B 2 uu ≤ 10 → ¬ B 2 uu = 9 → (if B 2 uu = 10 then 1 else (B 4 uu).toNatClampNeg) = q → B 45 it = nI pp → pp + q ≤ 256 → to + q ≤ 256 → ∀ m j : Nat, q - j < m → j ≤ q → EV (mo_π l D cl_A kI kZ tl Z) m_writeItem (ev_E (mo_π l D cl_A kI kZ tl Z) 0 0 (mo_qv am kI kZ (fun F1 B1 => F1 = (wi_1 F B ii J it uu to).1 ∧ B1 = (wi_1 F B ii J it uu to).2))) 0 0 315 [some (.ref (am 60)), some (.int (nI ii)), some (.int (nI J)), some (.int (nI it)), some (.int (nI uu)), some (.int (B 2 uu)), some (.int (B 46 it)), some (.int (nI q)), some (.int (nI j))] [] (mo_W mo_ci am kI kZ F (va_up (wi_t B it to) 13 (mo_cp (B 13) (256 * ii + pp) (256 * J + to) j))) := by
    intro q pp k6 k8 k10 k9 hq hpp h1 h2 m
    induction m with
    | zero => intro j h; omega
    | succ m ih =>
      intro j hm hj
      refine ev_iload_8 315 d_mo_writeItem_315 ?_
      refine ev_iload_7 317 d_mo_writeItem_317 ?_
      refine ev_icmpge 319 368 d_mo_writeItem_319 (fun c319 => ?_) (fun c319 => ?_)
      · have h319 := n_le q j c319
        have ej : j = q := by omega
        subst j
        refine ev_vret 368 d_mo_writeItem_368 rfl ?_
        exact ⟨_, _, rfl, rfl, by rw [wi_1, if_neg k6, if_neg k8, if_neg (fun z => z k10), if_neg k9], by rw [wi_1, if_neg k6, if_neg k8, if_neg (fun z => z k10), if_neg k9, hq, hpp, nI_clamp (by omega)]⟩
      · have h319 := n_nle q j c319
        refine ev_aload_0 322 d_mo_writeItem_322 ?_
        refine mo_getr 323 9 13 d_mo_writeItem_323 lk_37 ?_
        refine ev_sipush (256) 326 d_mo_writeItem_326 (by decide) ?_
        refine ev_iload_2 329 d_mo_writeItem_329 ?_
        refine ev_imul 330 d_mo_writeItem_330 ?_
        refine ev_aload_0 331 d_mo_writeItem_331 ?_
        refine mo_getr 332 38 50 d_mo_writeItem_332 lk_129 ?_
        refine ev_iload_3 335 d_mo_writeItem_335 ?_
        refine mo_aldn (j := it) 336 38 50 d_mo_writeItem_336 (by exact hit) ?_
        refine ev_topi (nI to) (show upd (B 50) it (nI to) it = nI to from upd_eq) ?_
        refine ev_iadd 337 d_mo_writeItem_337 ?_
        refine ev_iload_8 338 d_mo_writeItem_338 ?_
        refine ev_iadd 340 d_mo_writeItem_340 ?_
        refine ev_aload_0 341 d_mo_writeItem_341 ?_
        refine mo_getr 342 9 13 d_mo_writeItem_342 lk_37 ?_
        refine ev_sipush (256) 345 d_mo_writeItem_345 (by decide) ?_
        refine ev_iload_1 348 d_mo_writeItem_348 ?_
        refine ev_imul 349 d_mo_writeItem_349 ?_
        refine ev_aload_0 350 d_mo_writeItem_350 ?_
        refine mo_getr 351 33 45 d_mo_writeItem_351 lk_114 ?_
        refine ev_iload_3 354 d_mo_writeItem_354 ?_
        refine mo_aldn (j := it) 355 33 45 d_mo_writeItem_355 (by exact hit) ?_
        refine ev_topi (nI pp) (show B 45 it = nI pp from hpp) ?_
        refine ev_iadd 356 d_mo_writeItem_356 ?_
        refine ev_iload_8 357 d_mo_writeItem_357 ?_
        refine ev_iadd 359 d_mo_writeItem_359 ?_
        refine ev_topi (nI (256 * ii + pp + j)) (by rw [n_256, pk_mul, nI_add, nI_add]) ?_
        refine mo_aldn (j := 256 * ii + pp + j) 360 9 13 d_mo_writeItem_360 (by show 256 * ii + pp + j < 1536; omega) ?_
        refine ev_sndi (nI (256 * J + to + j)) (by rw [n_256, pk_mul, nI_add, nI_add]) ?_
        refine mo_astn (j := 256 * J + to + j) 361 9 13 d_mo_writeItem_361 (by show 256 * J + to + j < 1536; omega) ?_
        refine ev_iinc_8 362 d_mo_writeItem_362 ?_
        refine ev_goto 365 315 d_mo_writeItem_365 ?_
        exact ev_eq (ih (j + 1) (by omega) (by omega)) (h1 := by rw [n_i1]) (h3 := congrArg (mo_W mo_ci am kI kZ _) (bx_uu _ 13 _ _))
  have M77 : ∀ (o7 o8 : Option Value), EV (mo_π l D cl_A kI kZ tl Z) m_writeItem (ev_E (mo_π l D cl_A kI kZ tl Z) 0 0 (mo_qv am kI kZ (fun F1 B1 => F1 = (wi_1 F B ii J it uu to).1 ∧ B1 = (wi_1 F B ii J it uu to).2))) 0 0 77 [some (.ref (am 60)), some (.int (nI ii)), some (.int (nI J)), some (.int (nI it)), some (.int (nI uu)), some (.int (B 2 uu)), some (.int (B 46 it)), o7, o8] [] (mo_W mo_ci am kI kZ F (wi_t B it to)) := by
    intro o7 o8
    refine ev_iload_5 77 d_mo_writeItem_77 ?_
    refine ev_bipush (6) 79 d_mo_writeItem_79 (by decide) ?_
    refine ev_icmpeq 81 91 d_mo_writeItem_81 (fun c81 => ?_) (fun c81 => ?_)
    · obtain ⟨hm, hmn, hto4⟩ := hk68 (Or.inl c81)
      refine ev_aload_0 91 d_mo_writeItem_91 ?_
      refine mo_getr 92 37 49 d_mo_writeItem_92 lk_126 ?_
      refine ev_iload_3 95 d_mo_writeItem_95 ?_
      refine mo_aldn (j := it) 96 37 49 d_mo_writeItem_96 (by exact hit) ?_
      refine ev_topi (nI mn) (show B 49 it = nI mn from hm) ?_
      refine ev_istore_7 97 d_mo_writeItem_97 ?_
      refine ev_aload_0 99 d_mo_writeItem_99 ?_
      refine mo_getr 100 39 51 d_mo_writeItem_100 lk_132 ?_
      refine ev_iload_3 103 d_mo_writeItem_103 ?_
      refine ev_iload_5 104 d_mo_writeItem_104 ?_
      refine ev_bipush (6) 106 d_mo_writeItem_106 (by decide) ?_
      refine ev_icmpne 108 122 d_mo_writeItem_108 (fun c108 => ?_) (fun c108 => ?_)
      · exact absurd c81 c108
      · refine ev_aload_0 111 d_mo_writeItem_111 ?_
        refine ev_iload_2 112 d_mo_writeItem_112 ?_
        refine ev_iload_7 113 d_mo_writeItem_113 ?_
        refine ev_iconst_1 115 d_mo_writeItem_115 ?_
        refine mo_calli3 116 d_mo_writeItem_116 hZ kc_266 (mt_room (B := (wi_t B it to)) hZ J mn 1 hJ (by omega) (by omega) (by omega) hp hhp hp2 (by rw [mo_ut1]; omega)) (fun y F1 B1 h9 => ?_)
        refine ev_goto 119 160 d_mo_writeItem_119 ?_
        refine mo_astn (j := it) 160 39 51 d_mo_writeItem_160 (by exact hit) ?_
        refine ev_aload_0 161 d_mo_writeItem_161 ?_
        refine mo_geti 162 54 d_mo_writeItem_162 lk_224 ?_
        refine ev_ifle 165 169 d_mo_writeItem_165 (fun c165 => ?_) (fun c165 => ?_)
        · obtain ⟨hq, ey, e1, e2⟩ : mo_ut hp 1 + mn ≤ 256 ∧ y = nI (mo_ut hp 1) ∧ F1 = F ∧ B1 = va_up (va_up (wi_t B it to) 13 (mo_zf (B 13) (256 * J + mo_ut hp 1) mn)) 14 (upd (B 14) J (nI (mo_ut hp 1 + mn))) := by
            rcases h9 with ⟨-, -, e, -⟩ | h9
            · rw [e] at c165; exact absurd (show mo_fl F 11 _ 54 ≤ 0 from c165) (by rw [mo_fl1 h0]; decide)
            · exact h9
          subst F1
          subst B1
          subst ey
          refine ev_aload_0 169 d_mo_writeItem_169 ?_
          refine ev_iload_2 170 d_mo_writeItem_170 ?_
          refine ev_aload_0 171 d_mo_writeItem_171 ?_
          refine mo_getr 172 38 50 d_mo_writeItem_172 lk_129 ?_
          refine ev_iload_3 175 d_mo_writeItem_175 ?_
          refine mo_aldn (j := it) 176 38 50 d_mo_writeItem_176 (by exact hit) ?_
          refine ev_topi (nI to) (show upd (B 50) it (nI to) it = nI to from upd_eq) ?_
          refine ev_iconst_2 177 d_mo_writeItem_177 ?_
          refine ev_aload_0 178 d_mo_writeItem_178 ?_
          refine mo_getr 179 39 51 d_mo_writeItem_179 lk_132 ?_
          refine ev_iload_3 182 d_mo_writeItem_182 ?_
          refine mo_aldn (j := it) 183 39 51 d_mo_writeItem_183 (by exact hit) ?_
          refine ev_topi (nI (mo_ut hp 1)) (show upd (B 51) it (nI (mo_ut hp 1)) it = nI (mo_ut hp 1) from upd_eq) ?_
          refine mo_callv4 184 d_mo_writeItem_184 hZ kc_263 (mt_put hZ J (to) 2 (nI (mo_ut hp 1)) hJ (by omega)) (fun F9 B9 h9 => ?_)
          obtain ⟨e1, e2⟩ := h9
          subst F9
          subst B9
          refine ev_aload_0 187 d_mo_writeItem_187 ?_
          refine ev_iload_2 188 d_mo_writeItem_188 ?_
          refine ev_aload_0 189 d_mo_writeItem_189 ?_
          refine mo_getr 190 38 50 d_mo_writeItem_190 lk_129 ?_
          refine ev_iload_3 193 d_mo_writeItem_193 ?_
          refine mo_aldn (j := it) 194 38 50 d_mo_writeItem_194 (by exact hit) ?_
          refine ev_topi (nI to) (show upd (B 50) it (nI to) it = nI to from upd_eq) ?_
          refine ev_iconst_2 195 d_mo_writeItem_195 ?_
          refine ev_iadd 196 d_mo_writeItem_196 ?_
          refine ev_topi (nI (to + 2)) (show nI to + 2 = nI (to + 2) from nI_add to 2) ?_
          refine ev_iconst_2 197 d_mo_writeItem_197 ?_
          refine ev_iload_7 198 d_mo_writeItem_198 ?_
          refine mo_callv4 200 d_mo_writeItem_200 hZ kc_263 (mt_put hZ J (to + 2) 2 (nI (mn)) hJ (by omega)) (fun F9 B9 h9 => ?_)
          obtain ⟨e1, e2⟩ := h9
          subst F9
          subst B9
          refine ev_iconst_0 203 d_mo_writeItem_203 ?_
          refine ev_istore_8 204 d_mo_writeItem_204 ?_
          obtain ⟨fr, hfr, hfr2⟩ := h6 c81
          refine ev_eq (L206 c81 fr hfr hfr2 (by omega) (mn + 1) 0 (by omega) (by omega)) (h3 := ?_)
          refine congrArg (mo_W mo_ci am kI kZ _) ?_
          rw [bx_uu] <;> rfl
        · refine ev_vret 168 d_mo_writeItem_168 rfl ?_
          obtain ⟨hq, ey, e1, e2⟩ : 256 < mo_ut hp 1 + mn ∧ y = 0 ∧ F1 = mo_fl F 11 (nI (mo_ut hp 1)) ∧ B1 = (wi_t B it to) := by
            rcases h9 with h9 | ⟨-, -, e, -⟩
            · exact h9
            · rw [e] at c165; exact absurd (show F 54 ≤ 0 by rw [h0]; decide) c165
          subst F1
          subst B1
          subst ey
          exact ⟨_, _, rfl, rfl, by rw [wi_1, if_pos c81, hhp, hm, nI_clamp (show hp < 2 ^ 31 by omega), nI_clamp (show mn < 2 ^ 31 by omega), wi_l, if_pos hq] <;> rfl, by rw [wi_1, if_pos c81, hhp, hm, nI_clamp (show hp < 2 ^ 31 by omega), nI_clamp (show mn < 2 ^ 31 by omega), wi_l, if_pos hq] <;> rfl⟩
    · refine ev_iload_5 84 d_mo_writeItem_84 ?_
      refine ev_bipush (8) 86 d_mo_writeItem_86 (by decide) ?_
      refine ev_icmpne 88 269 d_mo_writeItem_88 (fun c88 => ?_) (fun c88 => ?_)
      · refine ev_iload_5 269 d_mo_writeItem_269 ?_
        refine ev_bipush (10) 271 d_mo_writeItem_271 (by decide) ?_
        refine ev_icmple 273 285 d_mo_writeItem_273 (fun c273 => ?_) (fun c273 => ?_)
        · refine ev_iload_5 285 d_mo_writeItem_285 ?_
          refine ev_bipush (9) 287 d_mo_writeItem_287 (by decide) ?_
          refine ev_icmpeq 289 368 d_mo_writeItem_289 (fun c289 => ?_) (fun c289 => ?_)
          · refine ev_vret 368 d_mo_writeItem_368 rfl ?_
            exact ⟨_, _, rfl, rfl, by rw [wi_1, if_neg c81, if_neg c88, if_neg (fun z => z c273), if_pos c289], by rw [wi_1, if_neg c81, if_neg c88, if_neg (fun z => z c273), if_pos c289]⟩
          · refine ev_iload_5 292 d_mo_writeItem_292 ?_
            refine ev_bipush (10) 294 d_mo_writeItem_294 (by decide) ?_
            refine ev_icmpne 296 303 d_mo_writeItem_296 (fun c296 => ?_) (fun c296 => ?_)
            · refine ev_aload_0 303 d_mo_writeItem_303 ?_
              refine mo_getr 304 2 4 d_mo_writeItem_304 lk_16 ?_
              refine ev_iload_4 307 d_mo_writeItem_307 ?_
              refine mo_aldn (j := uu) 309 2 4 d_mo_writeItem_309 (by show uu < 32; omega) ?_
              refine ev_istore_7 310 d_mo_writeItem_310 ?_
              refine ev_iconst_0 312 d_mo_writeItem_312 ?_
              refine ev_istore_8 313 d_mo_writeItem_313 ?_
              obtain ⟨pp, sz, hpp, hsz, g1, g2⟩ := hpl c81 c88 c273 c289
              rw [if_neg c296] at g1 g2
              exact ev_eq (L315 sz pp c81 c88 c273 c289 (by rw [if_neg c296, hsz, nI_clamp (show sz < 2 ^ 31 by omega)]) hpp g1 g2 (sz + 1) 0 (by omega) (by omega)) (h1 := by rw [show wi_t B it to 4 uu = nI sz from hsz] <;> rfl) (h3 := congrArg (mo_W mo_ci am kI kZ _) (mo_upid _ 13).symm)
            · refine ev_iconst_1 299 d_mo_writeItem_299 ?_
              refine ev_goto 300 310 d_mo_writeItem_300 ?_
              refine ev_istore_7 310 d_mo_writeItem_310 ?_
              refine ev_iconst_0 312 d_mo_writeItem_312 ?_
              refine ev_istore_8 313 d_mo_writeItem_313 ?_
              obtain ⟨pp, sz, hpp, hsz, g1, g2⟩ := hpl c81 c88 c273 c289
              rw [if_pos c296] at g1 g2
              exact ev_eq (L315 1 pp c81 c88 c273 c289 (if_pos c296) hpp g1 g2 2 0 (by omega) (by omega)) (h3 := congrArg (mo_W mo_ci am kI kZ _) (mo_upid _ 13).symm)
        · refine ev_aload_0 276 d_mo_writeItem_276 ?_
          refine ev_iload_2 277 d_mo_writeItem_277 ?_
          refine ev_iload_3 278 d_mo_writeItem_278 ?_
          obtain ⟨g1, g2, g3⟩ := hha c273
          refine mo_callv2 279 d_mo_writeItem_279 hZ kc_269 (mt_writeHandle (B := (wi_t B it to)) hZ J it hJ hit (by show vp_in (B 44 it) 32; rw [hU]; exact vp_in_nI (by omega) (by decide)) g1 to upd_eq g2 g3) (fun F9 B9 h9 => ?_)
          obtain ⟨e1, e2⟩ := h9
          subst F9
          subst B9
          refine ev_goto 282 368 d_mo_writeItem_282 ?_
          refine ev_vret 368 d_mo_writeItem_368 rfl ?_
          exact ⟨_, _, rfl, rfl, by rw [wi_1, if_neg c81, if_neg c88, if_pos c273], by rw [wi_1, if_neg c81, if_neg c88, if_pos c273]⟩
      · obtain ⟨hm, hmn, hto4⟩ := hk68 (Or.inr c88)
        obtain ⟨pu, szp, alp, hpu, hpu2, hspu, hszp, hapu, ha1, ha8⟩ := h8l c88
        refine ev_aload_0 91 d_mo_writeItem_91 ?_
        refine mo_getr 92 37 49 d_mo_writeItem_92 lk_126 ?_
        refine ev_iload_3 95 d_mo_writeItem_95 ?_
        refine mo_aldn (j := it) 96 37 49 d_mo_writeItem_96 (by exact hit) ?_
        refine ev_topi (nI mn) (show B 49 it = nI mn from hm) ?_
        refine ev_istore_7 97 d_mo_writeItem_97 ?_
        refine ev_aload_0 99 d_mo_writeItem_99 ?_
        refine mo_getr 100 39 51 d_mo_writeItem_100 lk_132 ?_
        refine ev_iload_3 103 d_mo_writeItem_103 ?_
        refine ev_iload_5 104 d_mo_writeItem_104 ?_
        refine ev_bipush (6) 106 d_mo_writeItem_106 (by decide) ?_
        refine ev_icmpne 108 122 d_mo_writeItem_108 (fun c108 => ?_) (fun c108 => ?_)
        · refine ev_aload_0 122 d_mo_writeItem_122 ?_
          refine ev_iload_2 123 d_mo_writeItem_123 ?_
          refine ev_iload_7 124 d_mo_writeItem_124 ?_
          refine ev_aload_0 126 d_mo_writeItem_126 ?_
          refine mo_getr 127 2 4 d_mo_writeItem_127 lk_16 ?_
          refine ev_aload_0 130 d_mo_writeItem_130 ?_
          refine mo_getr 131 6 8 d_mo_writeItem_131 lk_28 ?_
          refine ev_bipush (6) 134 d_mo_writeItem_134 (by decide) ?_
          refine ev_iload_4 136 d_mo_writeItem_136 ?_
          refine ev_imul 138 d_mo_writeItem_138 ?_
          refine ev_topi (nI (6 * uu)) (by rw [n_6, pk_mul]) ?_
          refine mo_aldn (j := 6 * uu) 139 6 8 d_mo_writeItem_139 (by show 6 * uu < 192; omega) ?_
          refine ev_topi (nI pu) (show B 8 (6 * uu) = nI pu from hpu) ?_
          refine mo_aldn (j := pu) 140 2 4 d_mo_writeItem_140 (by show pu < 32; omega) ?_
          refine ev_topi (nI szp) (show B 4 pu = nI szp from hspu) ?_
          refine ev_imul 141 d_mo_writeItem_141 ?_
          refine ev_aload_0 142 d_mo_writeItem_142 ?_
          refine mo_getr 143 3 5 d_mo_writeItem_143 lk_19 ?_
          refine ev_aload_0 146 d_mo_writeItem_146 ?_
          refine mo_getr 147 6 8 d_mo_writeItem_147 lk_28 ?_
          refine ev_bipush (6) 150 d_mo_writeItem_150 (by decide) ?_
          refine ev_iload_4 152 d_mo_writeItem_152 ?_
          refine ev_imul 154 d_mo_writeItem_154 ?_
          refine ev_topi (nI (6 * uu)) (by rw [n_6, pk_mul]) ?_
          refine mo_aldn (j := 6 * uu) 155 6 8 d_mo_writeItem_155 (by show 6 * uu < 192; omega) ?_
          refine ev_topi (nI pu) (show B 8 (6 * uu) = nI pu from hpu) ?_
          refine mo_aldn (j := pu) 156 3 5 d_mo_writeItem_156 (by show pu < 32; omega) ?_
          refine ev_topi (nI alp) (show B 5 pu = nI alp from hapu) ?_
          refine ev_sndi (nI (mn * szp)) (by rw [pk_mul]) ?_
          refine mo_calli3 157 d_mo_writeItem_157 hZ kc_266 (mt_room (B := (wi_t B it to)) hZ J (mn * szp) alp hJ (by have : mn * szp ≤ 65535 * 96 := Nat.mul_le_mul hmn hszp; omega) (by omega) (by omega) hp hhp hp2 (by have := mo_ut_le hp alp (by omega); omega)) (fun y F1 B1 h9 => ?_)
          refine mo_astn (j := it) 160 39 51 d_mo_writeItem_160 (by exact hit) ?_
          refine ev_aload_0 161 d_mo_writeItem_161 ?_
          refine mo_geti 162 54 d_mo_writeItem_162 lk_224 ?_
          refine ev_ifle 165 169 d_mo_writeItem_165 (fun c165 => ?_) (fun c165 => ?_)
          · obtain ⟨hq, ey, e1, e2⟩ : mo_ut hp alp + (mn * szp) ≤ 256 ∧ y = nI (mo_ut hp alp) ∧ F1 = F ∧ B1 = va_up (va_up (wi_t B it to) 13 (mo_zf (B 13) (256 * J + mo_ut hp alp) (mn * szp))) 14 (upd (B 14) J (nI (mo_ut hp alp + (mn * szp)))) := by
              rcases h9 with ⟨-, -, e, -⟩ | h9
              · rw [e] at c165; exact absurd (show mo_fl F 11 _ 54 ≤ 0 from c165) (by rw [mo_fl1 h0]; decide)
              · exact h9
            subst F1
            subst B1
            subst ey
            refine ev_aload_0 169 d_mo_writeItem_169 ?_
            refine ev_iload_2 170 d_mo_writeItem_170 ?_
            refine ev_aload_0 171 d_mo_writeItem_171 ?_
            refine mo_getr 172 38 50 d_mo_writeItem_172 lk_129 ?_
            refine ev_iload_3 175 d_mo_writeItem_175 ?_
            refine mo_aldn (j := it) 176 38 50 d_mo_writeItem_176 (by exact hit) ?_
            refine ev_topi (nI to) (show upd (B 50) it (nI to) it = nI to from upd_eq) ?_
            refine ev_iconst_2 177 d_mo_writeItem_177 ?_
            refine ev_aload_0 178 d_mo_writeItem_178 ?_
            refine mo_getr 179 39 51 d_mo_writeItem_179 lk_132 ?_
            refine ev_iload_3 182 d_mo_writeItem_182 ?_
            refine mo_aldn (j := it) 183 39 51 d_mo_writeItem_183 (by exact hit) ?_
            refine ev_topi (nI (mo_ut hp alp)) (show upd (B 51) it (nI (mo_ut hp alp)) it = nI (mo_ut hp alp) from upd_eq) ?_
            refine mo_callv4 184 d_mo_writeItem_184 hZ kc_263 (mt_put hZ J (to) 2 (nI (mo_ut hp alp)) hJ (by omega)) (fun F9 B9 h9 => ?_)
            obtain ⟨e1, e2⟩ := h9
            subst F9
            subst B9
            refine ev_aload_0 187 d_mo_writeItem_187 ?_
            refine ev_iload_2 188 d_mo_writeItem_188 ?_
            refine ev_aload_0 189 d_mo_writeItem_189 ?_
            refine mo_getr 190 38 50 d_mo_writeItem_190 lk_129 ?_
            refine ev_iload_3 193 d_mo_writeItem_193 ?_
            refine mo_aldn (j := it) 194 38 50 d_mo_writeItem_194 (by exact hit) ?_
            refine ev_topi (nI to) (show upd (B 50) it (nI to) it = nI to from upd_eq) ?_
            refine ev_iconst_2 195 d_mo_writeItem_195 ?_
            refine ev_iadd 196 d_mo_writeItem_196 ?_
            refine ev_topi (nI (to + 2)) (show nI to + 2 = nI (to + 2) from nI_add to 2) ?_
            refine ev_iconst_2 197 d_mo_writeItem_197 ?_
            refine ev_iload_7 198 d_mo_writeItem_198 ?_
            refine mo_callv4 200 d_mo_writeItem_200 hZ kc_263 (mt_put hZ J (to + 2) 2 (nI (mn)) hJ (by omega)) (fun F9 B9 h9 => ?_)
            obtain ⟨e1, e2⟩ := h9
            subst F9
            subst B9
            refine ev_iconst_0 203 d_mo_writeItem_203 ?_
            refine ev_istore_8 204 d_mo_writeItem_204 ?_
            refine ev_iload_8 206 d_mo_writeItem_206 ?_
            refine ev_iload_7 208 d_mo_writeItem_208 ?_
            refine ev_icmpge 210 266 d_mo_writeItem_210 (fun c210 => ?_) (fun c210 => ?_)
            · refine ev_goto 266 368 d_mo_writeItem_266 ?_
              refine ev_vret 368 d_mo_writeItem_368 rfl ?_
              exact ⟨_, _, rfl, rfl, by rw [wi_1, if_neg c81, if_pos c88, hhp, hm, nI_clamp (show hp < 2 ^ 31 by omega), nI_clamp (show mn < 2 ^ 31 by omega), hpu, nI_clamp (show pu < 2 ^ 31 by omega), hspu, hapu, nI_clamp (show szp < 2 ^ 31 by omega), nI_clamp (show alp < 2 ^ 31 by omega), wi_l, if_neg (show ¬ 256 < mo_ut hp alp + mn * szp by omega)] <;> rfl, by rw [wi_1, if_neg c81, if_pos c88, hhp, hm, nI_clamp (show hp < 2 ^ 31 by omega), nI_clamp (show mn < 2 ^ 31 by omega), hpu, nI_clamp (show pu < 2 ^ 31 by omega), hspu, hapu, nI_clamp (show szp < 2 ^ 31 by omega), nI_clamp (show alp < 2 ^ 31 by omega), wi_l, if_neg (show ¬ 256 < mo_ut hp alp + mn * szp by omega), wi_f, if_neg (show ¬ False from fun z => z), bx_uu] <;> rfl⟩
            · refine ev_iload_5 213 d_mo_writeItem_213 ?_
              refine ev_bipush (6) 215 d_mo_writeItem_215 (by decide) ?_
              refine ev_icmpne 217 266 d_mo_writeItem_217 (fun c217 => ?_) (fun c217 => ?_)
              · refine ev_goto 266 368 d_mo_writeItem_266 ?_
                refine ev_vret 368 d_mo_writeItem_368 rfl ?_
                exact ⟨_, _, rfl, rfl, by rw [wi_1, if_neg c81, if_pos c88, hhp, hm, nI_clamp (show hp < 2 ^ 31 by omega), nI_clamp (show mn < 2 ^ 31 by omega), hpu, nI_clamp (show pu < 2 ^ 31 by omega), hspu, hapu, nI_clamp (show szp < 2 ^ 31 by omega), nI_clamp (show alp < 2 ^ 31 by omega), wi_l, if_neg (show ¬ 256 < mo_ut hp alp + mn * szp by omega)] <;> rfl, by rw [wi_1, if_neg c81, if_pos c88, hhp, hm, nI_clamp (show hp < 2 ^ 31 by omega), nI_clamp (show mn < 2 ^ 31 by omega), hpu, nI_clamp (show pu < 2 ^ 31 by omega), hspu, hapu, nI_clamp (show szp < 2 ^ 31 by omega), nI_clamp (show alp < 2 ^ 31 by omega), wi_l, if_neg (show ¬ 256 < mo_ut hp alp + mn * szp by omega), wi_f, if_neg (show ¬ False from fun z => z), bx_uu] <;> rfl⟩
              · exact absurd c217 c81
          · refine ev_vret 168 d_mo_writeItem_168 rfl ?_
            obtain ⟨hq, ey, e1, e2⟩ : 256 < mo_ut hp alp + (mn * szp) ∧ y = 0 ∧ F1 = mo_fl F 11 (nI (mo_ut hp alp)) ∧ B1 = (wi_t B it to) := by
              rcases h9 with h9 | ⟨-, -, e, -⟩
              · exact h9
              · rw [e] at c165; exact absurd (show F 54 ≤ 0 by rw [h0]; decide) c165
            subst F1
            subst B1
            subst ey
            exact ⟨_, _, rfl, rfl, by rw [wi_1, if_neg c81, if_pos c88, hhp, hm, nI_clamp (show hp < 2 ^ 31 by omega), nI_clamp (show mn < 2 ^ 31 by omega), hpu, nI_clamp (show pu < 2 ^ 31 by omega), hspu, hapu, nI_clamp (show szp < 2 ^ 31 by omega), nI_clamp (show alp < 2 ^ 31 by omega), wi_l, if_pos hq] <;> rfl, by rw [wi_1, if_neg c81, if_pos c88, hhp, hm, nI_clamp (show hp < 2 ^ 31 by omega), nI_clamp (show mn < 2 ^ 31 by omega), hpu, nI_clamp (show pu < 2 ^ 31 by omega), hspu, hapu, nI_clamp (show szp < 2 ^ 31 by omega), nI_clamp (show alp < 2 ^ 31 by omega), wi_l, if_pos hq] <;> rfl⟩
        · exact absurd c108 c81
  refine ev_aload_0 0 d_mo_writeItem_0 ?_
  refine mo_getr 1 32 44 d_mo_writeItem_1 lk_111 ?_
  refine ev_iload_3 4 d_mo_writeItem_4 ?_
  refine mo_aldn (j := it) 5 32 44 d_mo_writeItem_5 (by exact hit) ?_
  refine ev_topi (nI uu) hU ?_
  refine ev_istore_4 6 d_mo_writeItem_6 ?_
  refine ev_aload_0 8 d_mo_writeItem_8 ?_
  refine mo_getr 9 0 2 d_mo_writeItem_9 lk_7 ?_
  refine ev_iload_4 12 d_mo_writeItem_12 ?_
  refine mo_aldn (j := uu) 14 0 2 d_mo_writeItem_14 (by show uu < 32; omega) ?_
  refine ev_istore_5 15 d_mo_writeItem_15 ?_
  refine ev_aload_0 17 d_mo_writeItem_17 ?_
  refine mo_getr 18 34 46 d_mo_writeItem_18 lk_117 ?_
  refine ev_iload_3 21 d_mo_writeItem_21 ?_
  refine mo_aldn (j := it) 22 34 46 d_mo_writeItem_22 (by exact hit) ?_
  refine ev_istore_6 23 d_mo_writeItem_23 ?_
  refine ev_iload_6 25 d_mo_writeItem_25 ?_
  refine ev_iflt 27 77 d_mo_writeItem_27 (fun c27 => ?_) (fun c27 => ?_)
  · rw [wi_to, if_pos c27] at hto
    exact ev_eq (M77 none none) (h3 := by rw [wi_t0 hto])
  · obtain ⟨g1, g2⟩ := hab c27
    obtain ⟨ab, hab2, eab⟩ := vp_in_of g1 (by decide)
    rw [eab, nI_clamp (by omega)] at g2
    obtain ⟨ua, hua, eua⟩ := vp_in_of g2 (by decide)
    refine ev_aload_0 30 d_mo_writeItem_30 ?_
    refine mo_getr 31 38 50 d_mo_writeItem_31 lk_129 ?_
    refine ev_iload_3 34 d_mo_writeItem_34 ?_
    refine ev_aload_0 35 d_mo_writeItem_35 ?_
    refine mo_getr 36 0 2 d_mo_writeItem_36 lk_7 ?_
    refine ev_aload_0 39 d_mo_writeItem_39 ?_
    refine mo_getr 40 32 44 d_mo_writeItem_40 lk_111 ?_
    refine ev_iload_6 43 d_mo_writeItem_43 ?_
    refine ev_topi (nI (ab)) (by rw [eab]) ?_
    refine mo_aldn (j := ab) 45 32 44 d_mo_writeItem_45 (by exact hab2) ?_
    refine ev_topi (nI ua) (show B 44 ab = nI ua from eua) ?_
    refine mo_aldn (j := ua) 46 0 2 d_mo_writeItem_46 (by show ua < 32; omega) ?_
    refine ev_bipush (8) 47 d_mo_writeItem_47 (by decide) ?_
    refine ev_icmpne 49 62 d_mo_writeItem_49 (fun c49 => ?_) (fun c49 => ?_)
    · refine ev_aload_0 62 d_mo_writeItem_62 ?_
      refine mo_getr 63 38 50 d_mo_writeItem_63 lk_129 ?_
      refine ev_iload_6 66 d_mo_writeItem_66 ?_
      refine ev_topi (nI (ab)) (by rw [eab]) ?_
      refine mo_aldn (j := ab) 68 38 50 d_mo_writeItem_68 (by exact hab2) ?_
      refine ev_aload_0 69 d_mo_writeItem_69 ?_
      refine mo_getr 70 35 47 d_mo_writeItem_70 lk_120 ?_
      refine ev_iload_3 73 d_mo_writeItem_73 ?_
      refine mo_aldn (j := it) 74 35 47 d_mo_writeItem_74 (by exact hit) ?_
      refine ev_iadd 75 d_mo_writeItem_75 ?_
      refine mo_astn (j := it) 76 38 50 d_mo_writeItem_76 (by exact hit) ?_
      rw [wi_to, if_neg c27, eab, nI_clamp (show ab < 2 ^ 31 by omega), eua, nI_clamp (show ua < 2 ^ 31 by omega), if_neg c49] at hto
      exact ev_eq (M77 none none) (h3 := by rw [wi_t, ← hto] <;> rfl)
    · refine ev_aload_0 52 d_mo_writeItem_52 ?_
      refine mo_getr 53 39 51 d_mo_writeItem_53 lk_132 ?_
      refine ev_iload_6 56 d_mo_writeItem_56 ?_
      refine ev_topi (nI (ab)) (by rw [eab]) ?_
      refine mo_aldn (j := ab) 58 39 51 d_mo_writeItem_58 (by exact hab2) ?_
      refine ev_goto 59 69 d_mo_writeItem_59 ?_
      refine ev_aload_0 69 d_mo_writeItem_69 ?_
      refine mo_getr 70 35 47 d_mo_writeItem_70 lk_120 ?_
      refine ev_iload_3 73 d_mo_writeItem_73 ?_
      refine mo_aldn (j := it) 74 35 47 d_mo_writeItem_74 (by exact hit) ?_
      refine ev_iadd 75 d_mo_writeItem_75 ?_
      refine mo_astn (j := it) 76 38 50 d_mo_writeItem_76 (by exact hit) ?_
      rw [wi_to, if_neg c27, eab, nI_clamp (show ab < 2 ^ 31 by omega), eua, nI_clamp (show ua < 2 ^ 31 by omega), if_pos c49] at hto
      exact ev_eq (M77 none none) (h3 := by rw [wi_t, ← hto] <;> rfl)
end
