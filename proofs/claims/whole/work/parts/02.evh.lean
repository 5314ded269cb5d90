/-! heap, calls, returns, contracts over EV -/
def ev_sv : Slot → Option Value
  | .val v => some v
  | _ => none
def ev_lv (vs : List Value) (n : Nat) : List (Option Value) := (lg_sl vs ++ List.replicate (n - (lg_sl vs).length) Slot.unset).map ev_sv
theorem ev_entry (vs : List Value) {n : Nat} (h : (lg_sl vs).length ≤ n) : ev_ls ((lg_sl vs ++ List.replicate (n - (lg_sl vs).length) Slot.unset).toArray) n (ev_lv vs n) := by
  have h0 := lv_entry vs h
  refine ⟨h0.1, h0.2.1, fun i v hi => ?_⟩
  rw [ev_lv, List.getElem?_map] at hi
  rw [List.getElem?_toArray]
  cases hx : (lg_sl vs ++ List.replicate (n - (lg_sl vs).length) Slot.unset)[i]? with
  | none => rw [hx] at hi; cases hi
  | some z =>
    rw [hx] at hi
    cases z with
    | val w =>
      have : w = v := by simpa [ev_sv] using hi
      rw [this]
    | unset => simp [ev_sv] at hi
    | second => simp [ev_sv] at hi
def ev_Q (π : ev_P) (Q : Option Value → va_W → Prop) (A : Nat → Prop) : Array Value → State → Outcome → State → Prop := fun _ st oc t =>
  (∃ (r : Option Value) (w : va_W), oc = .returned r ∧ Q r w ∧ va_P π.2.1 π.2.2.1 w t.heap ∧ va_D A w) ∧ va_F A st t
def ev_E (π : ev_P) (mc ms : Nat) (Q : Option Value → va_W → Prop) : ev_T := fun below args s A => MQ below (ev_Q π Q A) args s mc ms A
def ev_Pc (π : ev_P) (av : List Value) (w0 : va_W) (sz : Nat) : Array Value → State → Prop := va_Pc av (fun U => U.heap.size = sz ∧ va_P π.2.1 π.2.2.1 w0 U.heap ∧ va_K π.2.1 π.2.2.1 π.2.2.2.1 U ∧ va_D (fun _ => True) w0 ∧ π.2.2.2.2 (va_A w0 sz) U U.heap)
def MT (π : ev_P) (μ : ev_M) (mc ms : Nat) (av : List Value) (w0 : va_W) (Q : Option Value → va_W → Prop) : Prop :=
  ∀ sz : Nat, Met π.1 μ.1 μ.2.2.2.2.1 μ.2.2.2.2.2 (ev_Pc π av w0 sz) (ev_Q π Q (va_A w0 sz)) mc ms (va_A w0 sz)
def ev_Zok (Z : (Nat → Prop) → State → Heap → Prop) : Prop :=
  (∀ (A : Nat → Prop) (s U : State) (H : Heap), s.WarmedH U.vm → Z A s H → Z A U H) ∧ (∀ (A : Nat → Prop) (U : State) (H H1 : Heap), Z A U H → (∀ a : Nat, a < H.size → ¬ A a → H1[a]? = H[a]?) → Z A U H1) ∧
  (∀ (A B : Nat → Prop) (U : State) (H : Heap), Z A U H → (∀ q, B q → A q) → Z B U H) ∧ (∀ (A : Nat → Prop) (u U : State) (H : Heap), u.vm = U.vm → Z A u H → Z A U H)
theorem ev_Zok_tt : ev_Zok (fun _ _ _ => True) := ⟨fun _ _ _ _ _ _ => trivial, fun _ _ _ _ _ _ => trivial, fun _ _ _ _ _ _ => trivial, fun _ _ _ _ _ _ => trivial⟩
theorem mt_of {π : ev_P} {μ : ev_M} {mc ms : Nat} {av : List Value} {w0 : va_W} {Q : Option Value → va_W → Prop} {ws' : List Cond} (hy : plainName μ.1.cls = true) (hw : μ.2.2.2.2.1 = Cond.code μ.1 μ.2.1 μ.2.2.1 μ.2.2.2.1 :: ws') (hlen : (lg_sl av).length ≤ μ.2.2.1)
    (k : EV π μ (ev_E π mc ms Q) 0 0 0 (ev_lv av μ.2.2.1) [] w0) : MT π μ mc ms av w0 Q := by
  intro sz
  refine Met.ofW (cc := μ.2.1) (maxL := μ.2.2.1) (ret := μ.2.2.2.1) hy hw ?_
  intro p e s m args below meth c s₁ B hml hv
  obtain ⟨rfl, hsz, hP, hK, hD0, hZ⟩ := hv
  have hts := atoms_spec (ws := μ.2.2.2.2.1) B.pre
  have hown := findClass_of_methodNamed B.named
  have hnm := (name_of_methodNamed B.named B.method).1
  have htb : c.exceptionTable.toList = ev_tb μ.2.2.2.2.1 := by
    obtain ⟨meth9, c9, h1, h2, -, -, -, -, h7, -⟩ := Cond.code_spec B.named (hts _ (by rw [hw]; exact List.mem_cons_self))
    cases Option.some.inj (h1.symm.trans B.method)
    cases Option.some.inj (h2.symm.trans (Stand.of_body B).code)
    rw [hw, Array.isEmpty_iff.mp h7]
    rfl
  subst hsz
  have hD := hD0.self (sz := s.heap.size)
  rw [lg_entry_eq]
  exact k p e s m _ below meth c s.heap [] _ (va_A w0 s.heap.size) ⟨B.exec, B.bytes, hml, hown, hts, B.notSynchronized, B.returns, hnm, htb⟩ (ev_entry av hlen) hK hZ hP hD va_S.rf (fun q h => Or.inr h)
/-- a field of an object: its class's number, its place there, the words that link it -/
def ev_F (cl : List vw_C) (Ts : List Cond) (own : String) (idx ci k : Nat) : Prop := ∃ (C : String) (T : u_T) (N : Nat), cl[ci]? = some (C, T, N) ∧ (∀ w ∈ u_ws C T N, w ∈ Ts) ∧ k < N ∧ Cond.fieldLink own idx (T k).1 (T k).2.1 (T k).2.2.1 ∈ Ts
def ev_FP (cl : List vw_C) (Ts : List Cond) (own : String) (idx ci k : Nat) (ty : FieldType) : Prop := ∃ (C : String) (T : u_T) (N : Nat) (ty0 : Nat → FieldType), cl[ci]? = some (C, T, N) ∧ (∀ w ∈ u_ws C T N, w ∈ Ts) ∧ k < N ∧ Cond.fieldLink own idx (T k).1 (T k).2.1 (T k).2.2.1 ∈ Ts ∧
  (∀ k, k < N → parseFieldDescriptor (T k).2.2.1 = some (ty0 k)) ∧ (∀ a, a < N → ∀ b, b < N → a ≠ b → (T a).2.1 ≠ (T b).2.1) ∧ (T k).2.2.2 = false ∧ parseFieldDescriptor (T k).2.2.1 = some ty
section EVh
variable {π : ev_P} {μ : ev_M} {E : ev_T} {cells slots : Nat} {lv : List (Option Value)} {st : List Value} {ws : va_W}
theorem ev_get {idx ci a : Nat} {fs : List Value} {v : Value} (pc q0 k : Nat) (d : decode μ.2.1 pc = .ok (.getfield idx, 3)) (hF : ev_F π.2.2.1 μ.2.2.2.2.1 μ.1.cls idx ci k) (he : ws[q0]? = some (a, .inr (ci, fs))) (hv : fs[k]? = some v)
    (kk : EV π μ E cells slots (pc + 3) lv (v :: st) ws) : EV π μ E cells slots pc lv (.ref a :: st) ws := by
  obtain ⟨C, T, N, hc, hin, hk, hlk⟩ := hF
  intro p e s m args below meth c H locs ls A X hl hK hZ hP hD hS hA
  exact va_get (C := C) (T := T) (N := N) X.1 X.2.1 X.2.2.2.2.1 hin X.2.2.2.1 hK hP q0 he hc k hk (X.2.2.2.2.1 _ hlk) (fun _ h => h) hv d (kk p e s m args below meth c H locs ls A X hl hK hZ hP hD hS hA)
theorem ev_put {idx ci a : Nat} {fs : List Value} {v : Value} {ty : FieldType} (pc q0 k : Nat) (d : decode μ.2.1 pc = .ok (.putfield idx, 3)) (hF : ev_FP π.2.2.1 μ.2.2.2.2.1 μ.1.cls idx ci k ty) (he : ws[q0]? = some (a, .inr (ci, fs))) (hl0 : k < fs.length) (hn : narrow ty v = v) (hfit : fits ty v = true)
    (kk : EV π μ E cells slots (pc + 3) lv st (ws.set q0 (a, .inr (ci, fs.set k v)))) : EV π μ E cells slots pc lv (v :: .ref a :: st) ws := by
  obtain ⟨C, T, N, ty0, hc, hin, hk, hlk, hty, hnm, hfin, hd⟩ := hF
  intro p e s m args below meth c H locs ls A X hl hK hZ hP hD hS hA
  exact va_put (C := C) (T := T) (N := N) X.1 X.2.1 X.2.2.2.2.1 hin ty0 hty hnm X.2.2.2.1 hK hP hD hS q0 he hc k hk (X.2.2.2.2.1 _ hlk) (fun _ h => h) hfin hd hn hfit hl0 d (fun H1 locs1 hP1 hD1 hS1 => kk p e s m args below meth c H1 locs1 ls A X hl hK hZ hP1 hD1 hS1 hA)
theorem ev_iald {a : Nat} {cA : ClassId} {n : Nat} {f : Nat → Int32} {i : Int32} (pc q0 t0 : Nat) (d : decode μ.2.1 pc = .ok (.iaload, 1)) (ha : ws[q0]? = some (a, .inl (cA, n, .inl f))) (ht : π.2.2.2.1[t0]? = some (cA, .int)) (hin : vp_in i n)
    (kk : EV π μ E cells slots (pc + 1) lv (.int (f i.toNatClampNeg) :: st) ws) : EV π μ E cells slots pc lv (.int i :: .ref a :: st) ws :=
  fun p e s m args below meth c H locs ls A X hl hK hZ hP hD hS hA => va_iald X.1 X.2.1 hK hP q0 t0 ha ht hin d (kk p e s m args below meth c H locs ls A X hl hK hZ hP hD hS hA)
theorem ev_zald {a : Nat} {cA : ClassId} {n : Nat} {f : Nat → Int32} {i : Int32} (pc q0 t0 : Nat) (d : decode μ.2.1 pc = .ok (.baload, 1)) (ha : ws[q0]? = some (a, .inl (cA, n, .inl f))) (ht : π.2.2.2.1[t0]? = some (cA, .boolean)) (hin : vp_in i n)
    (kk : EV π μ E cells slots (pc + 1) lv (.int (f i.toNatClampNeg) :: st) ws) : EV π μ E cells slots pc lv (.int i :: .ref a :: st) ws :=
  fun p e s m args below meth c H locs ls A X hl hK hZ hP hD hS hA => va_zald X.1 X.2.1 hK hP q0 t0 ha ht hin d (kk p e s m args below meth c H locs ls A X hl hK hZ hP hD hS hA)
theorem ev_lald {a : Nat} {cA : ClassId} {n : Nat} {f : Nat → Int64} {i : Int32} (pc q0 t0 : Nat) (d : decode μ.2.1 pc = .ok (.laload, 1)) (ha : ws[q0]? = some (a, .inl (cA, n, .inr (.inl f)))) (ht : π.2.2.2.1[t0]? = some (cA, .long)) (hin : vp_in i n)
    (kk : EV π μ E cells slots (pc + 1) lv (.long (f i.toNatClampNeg) :: st) ws) : EV π μ E cells slots pc lv (.int i :: .ref a :: st) ws :=
  fun p e s m args below meth c H locs ls A X hl hK hZ hP hD hS hA => va_lald X.1 X.2.1 hK hP q0 t0 ha ht hin d (kk p e s m args below meth c H locs ls A X hl hK hZ hP hD hS hA)
theorem ev_aald {a : Nat} {cA : ClassId} {C : String} {n : Nat} {f : Nat → Option Nat} {i : Int32} (pc q0 t0 : Nat) (d : decode μ.2.1 pc = .ok (.aaload, 1)) (ha : ws[q0]? = some (a, .inl (cA, n, .inr (.inr (.inr (.inr f)))))) (ht : π.2.2.2.1[t0]? = some (cA, .object C)) (hin : vp_in i n)
    (kk : EV π μ E cells slots (pc + 1) lv (va_rf (f i.toNatClampNeg) :: st) ws) : EV π μ E cells slots pc lv (.int i :: .ref a :: st) ws :=
  fun p e s m args below meth c H locs ls A X hl hK hZ hP hD hS hA => va_aldq X.1 X.2.1 hK hP q0 t0 ha ht hin d (kk p e s m args below meth c H locs ls A X hl hK hZ hP hD hS hA)
theorem ev_alen {a : Nat} {cA : ClassId} {x : vp_A} {ty : FieldType} {v : Int32} (pc q0 t0 : Nat) (d : decode μ.2.1 pc = .ok (.arraylength, 1)) (ha : ws[q0]? = some (a, .inl (cA, x))) (ht : π.2.2.2.1[t0]? = some (cA, ty)) (hv : Int32.ofNat x.1 = v)
    (kk : EV π μ E cells slots (pc + 1) lv (.int v :: st) ws) : EV π μ E cells slots pc lv (.ref a :: st) ws :=
  fun p e s m args below meth c H locs ls A X hl hK hZ hP hD hS hA => va_alen X.1 X.2.1 hK hP q0 t0 ha ht hv d (kk p e s m args below meth c H locs ls A X hl hK hZ hP hD hS hA)
theorem ev_iast {a : Nat} {cA : ClassId} {n : Nat} {f : Nat → Int32} {i x : Int32} (pc q0 t0 : Nat) (d : decode μ.2.1 pc = .ok (.iastore, 1)) (ha : ws[q0]? = some (a, .inl (cA, n, .inl f))) (ht : π.2.2.2.1[t0]? = some (cA, .int)) (hin : vp_in i n)
    (kk : EV π μ E cells slots (pc + 1) lv st (ws.set q0 (a, .inl (cA, n, .inl (upd f i.toNatClampNeg x))))) : EV π μ E cells slots pc lv (.int x :: .int i :: .ref a :: st) ws :=
  fun p e s m args below meth c H locs ls A X hl hK hZ hP hD hS hA => va_iast X.1 X.2.1 hK hP hD hS q0 t0 ha ht hin d (fun H1 locs1 hP1 hD1 hS1 => kk p e s m args below meth c H1 locs1 ls A X hl hK hZ hP1 hD1 hS1 hA)
theorem ev_zast {a : Nat} {cA : ClassId} {n : Nat} {f : Nat → Int32} {i x : Int32} (pc q0 t0 : Nat) (d : decode μ.2.1 pc = .ok (.bastore, 1)) (ha : ws[q0]? = some (a, .inl (cA, n, .inl f))) (ht : π.2.2.2.1[t0]? = some (cA, .boolean)) (hin : vp_in i n)
    (kk : EV π μ E cells slots (pc + 1) lv st (ws.set q0 (a, .inl (cA, n, .inl (upd f i.toNatClampNeg (vp_nar .boolean x)))))) : EV π μ E cells slots pc lv (.int x :: .int i :: .ref a :: st) ws :=
  fun p e s m args below meth c H locs ls A X hl hK hZ hP hD hS hA => va_zast X.1 X.2.1 hK hP hD hS q0 t0 ha ht hin d (fun H1 locs1 hP1 hD1 hS1 => kk p e s m args below meth c H1 locs1 ls A X hl hK hZ hP1 hD1 hS1 hA)
theorem ev_last {a : Nat} {cA : ClassId} {n : Nat} {f : Nat → Int64} {i : Int32} {x : Int64} (pc q0 t0 : Nat) (d : decode μ.2.1 pc = .ok (.lastore, 1)) (ha : ws[q0]? = some (a, .inl (cA, n, .inr (.inl f)))) (ht : π.2.2.2.1[t0]? = some (cA, .long)) (hin : vp_in i n)
    (kk : EV π μ E cells slots (pc + 1) lv st (ws.set q0 (a, .inl (cA, n, .inr (.inl (vp_updL f i.toNatClampNeg x)))))) : EV π μ E cells slots pc lv (.long x :: .int i :: .ref a :: st) ws :=
  fun p e s m args below meth c H locs ls A X hl hK hZ hP hD hS hA => va_last X.1 X.2.1 hK hP hD hS q0 t0 ha ht hin d (fun H1 locs1 hP1 hD1 hS1 => kk p e s m args below meth c H1 locs1 ls A X hl hK hZ hP1 hD1 hS1 hA)
/-! returns -/
theorem ev_iret {Q : Option Value → va_W → Prop} {v : Int32} (pc : Nat) (d : decode μ.2.1 pc = .ok (.ireturn, 1)) (hr : μ.2.2.2.1 = some .int) (hq : Q (some (.int v)) ws) : EV π μ (ev_E π cells slots Q) cells slots pc lv [.int v] ws :=
  fun p e s m args below meth c H locs ls A X hl hK hZ hP hD hS hA => W.iret X.1 X.2.1 (X.2.2.2.2.2.2.1.trans hr) (fun t ht hW => ⟨⟨_, ws, rfl, hq, by rw [ht]; exact hP, hD⟩, hS.F ht⟩) hS.2.2 d X.2.2.2.2.2.1
theorem ev_zret {Q : Option Value → va_W → Prop} {v : Int32} (pc : Nat) (d : decode μ.2.1 pc = .ok (.ireturn, 1)) (hr : μ.2.2.2.1 = some .boolean) (hn : narrow .boolean (.int v) = .int v) (hq : Q (some (.int v)) ws) : EV π μ (ev_E π cells slots Q) cells slots pc lv [.int v] ws :=
  fun p e s m args below meth c H locs ls A X hl hK hZ hP hD hS hA => W.zret X.1 X.2.1 (X.2.2.2.2.2.2.1.trans hr) hn (fun t ht hW => ⟨⟨_, ws, rfl, hq, by rw [ht]; exact hP, hD⟩, hS.F ht⟩) hS.2.2 d X.2.2.2.2.2.1
theorem ev_lret {Q : Option Value → va_W → Prop} {v : Int64} (pc : Nat) (d : decode μ.2.1 pc = .ok (.lreturn, 1)) (hr : μ.2.2.2.1 = some .long) (hq : Q (some (.long v)) ws) : EV π μ (ev_E π cells slots Q) cells slots pc lv [.long v] ws :=
  fun p e s m args below meth c H locs ls A X hl hK hZ hP hD hS hA => W.lret X.1 X.2.1 (X.2.2.2.2.2.2.1.trans hr) (fun t ht hW => ⟨⟨_, ws, rfl, hq, by rw [ht]; exact hP, hD⟩, hS.F ht⟩) hS.2.2 d X.2.2.2.2.2.1
theorem ev_vret {Q : Option Value → va_W → Prop} (pc : Nat) (d : decode μ.2.1 pc = .ok (.return_, 1)) (hr : μ.2.2.2.1 = none) (hq : Q none ws) : EV π μ (ev_E π cells slots Q) cells slots pc lv [] ws :=
  fun p e s m args below meth c H locs ls A X hl hK hZ hP hD hS hA => W.vret X.1 X.2.1 (X.2.2.2.2.2.2.1.trans hr) (fun t ht hW => ⟨⟨_, ws, rfl, hq, by rw [ht]; exact hP, hD⟩, hS.F ht⟩) hS.2.2 d X.2.2.2.2.2.1
theorem ev_aret {Q : Option Value → va_W → Prop} {v : Value} {rt : FieldType} (pc : Nat) (d : decode μ.2.1 pc = .ok (.areturn, 1)) (hr : μ.2.2.2.1 = some rt) (hrt : (∃ n, rt = .object n) ∨ ∃ t, rt = .array t) (hv : v = .null ∨ ∃ a, v = .ref a) (hq : Q (some v) ws) : EV π μ (ev_E π cells slots Q) cells slots pc lv [v] ws :=
  fun p e s m args below meth c H locs ls A X hl hK hZ hP hD hS hA => W.aret X.1 X.2.1 (X.2.2.2.2.2.2.1.trans hr) hrt hv (fun t ht hW => ⟨⟨_, ws, rfl, hq, by rw [ht]; exact hP, hD⟩, hS.F ht⟩) hS.2.2 d X.2.2.2.2.2.1
end EVh
/-! calls: the whole world goes to the callee -/
theorem ev_inA {A : Nat → Prop} {ws : va_W} {H0 H : Heap} {locs : List Loc} (hD : va_D A ws) (hS : va_S A H0 H locs) (hA : ∀ q : Nat, H0.size ≤ q → A q) : ∀ q, va_A ws H.size q → A q := by
  rintro q (⟨k, e, hk⟩ | h)
  · exact hD.2 k (q, e) hk
  · exact hA q (Nat.le_trans hS.1 h)
theorem ev_blind {π : ev_P} (hZ : ev_Zok π.2.2.2.2) (av : List Value) (w0 : va_W) (sz : Nat) : FrameBlind (ev_Pc π av w0 sz) := by
  rintro a U g mk ⟨h0, h1, hP, hK, hD, hz⟩
  exact ⟨h0, h1, hP, va_K.moved (u := U) (U := U.calling g mk a) (Vm.Alike.refl U.vm) hK, hD, hZ.2.2.2 _ U _ _ rfl hz⟩
theorem ev_pre {π : ev_P} (hZ : ev_Zok π.2.2.2.2) {s U : State} {ws : va_W} {H : Heap} {locs : List Loc} {A : Nat → Prop} (As : List Value) (hK : va_K π.2.1 π.2.2.1 π.2.2.2.1 s) (hz : π.2.2.2.2 A s s.heap) (hP : va_P π.2.1 π.2.2.1 ws H) (hD : va_D A ws) (hS : va_S A s.heap H locs) (hA : ∀ q : Nat, s.heap.size ≤ q → A q) (hU : U.heap = H) (hW : s.WarmedH U.vm) : ev_Pc π As ws H.size As.toArray U := by
  refine ⟨rfl, by rw [hU], by rw [hU]; exact hP, va_K.moved hW.alike hK, hD.weaken (fun _ _ _ _ => trivial), ?_⟩
  rw [hU]
  exact hZ.1 _ s U _ hW (hZ.2.2.1 A _ _ _ (hZ.2.1 _ _ _ _ hz hS.2.1) (ev_inA hD hS hA))
theorem ev_run {π : ev_P} {p : Program} {e : Env} {R : Room} {s : State} {m : MethodId} {args : Array Value} {below : List Frame} {meth : Method} {c : Code} {H : Heap} {locs : List Loc} {cells slots mc ms pc : Nat} {ls : Array Slot} {st0 rest : List Value} {Q : State → Prop} {Q' : Option Value → va_W → Prop} {a : Array Value} {ws : va_W} {A : Nat → Prop}
    (hr : va_Run p π.1 e R s m args below meth c H locs cells slots mc ms (F0 m pc ls st0) rest (ev_Q π Q' (va_A ws H.size) a) (va_A ws H.size)) (hD : va_D A ws) (hS : va_S A s.heap H locs) (hA : ∀ q : Nat, s.heap.size ≤ q → A q)
    (kk : ∀ (r : Option Value) (w : va_W) (H1 : Heap) (locs1 : List Loc), Q' r w → va_P π.2.1 π.2.2.1 w H1 → va_D A w → va_S A s.heap H1 locs1 → W p π.1 e R s m args below meth c H1 locs1 (cells + mc) (slots + ms) Q (F0 m (pc + 3) ls (r.toList ++ rest))) : W p π.1 e R s m args below meth c H locs cells slots Q (F0 m pc ls st0) := by
  intro T hT X
  have hF := ev_inA hD hS hA
  obtain ⟨v, st₀, t, T', L, h0, X', hL, e1, e2, ⟨⟨r, w, hv, hq, hP1, hD1⟩, hz, hk⟩, st⟩ := hr T hT X
  cases hv
  rw [h0] at hz hk
  obtain ⟨t2, a1, b1⟩ := kk v w T'.heap (locs ++ L) hq (by rw [e1]; exact hP1) (hD1.weaken (fun k q hk' h => hF _ h))
    ⟨Nat.le_trans hS.1 (by rw [e1]; exact hz), fun q h1 h2 => by rw [e1, hk q (Nat.lt_of_lt_of_le h1 hS.1) (fun z => h2 (hF q z))]; exact hS.2.1 q h1 h2, fun q hq => by
      rcases List.mem_append.mp hq with h | h
      · exact hS.2.2 q h
      · exact hF _ (hL q h)⟩ T' rfl X'
  exact ⟨t2, st t2 a1, b1⟩
/-- what a caller μ must know of its callee μ' -/
def ev_kS (μ μ' : ev_M) (idx n : Nat) : Prop := GoodIn μ.2.2.2.2.1 (va_wsS μ.1.cls idx μ'.1 μ'.2.2.2.2.1) ∧ (∃ ws', μ'.2.2.2.2.1 = Cond.code μ'.1 μ'.2.1 μ'.2.2.1 μ'.2.2.2.1 :: ws') ∧ (μ'.1.cls ≠ "java/lang/invoke/MethodHandle" ∧ μ'.1.cls ≠ "java/lang/invoke/VarHandle" ∧ (parseMethodDescriptor μ'.1.desc).map (fun d => d.parameters.length) = some n)
def ev_kV (μ μ' : ev_M) (idx n : Nat) : Prop := GoodIn μ.2.2.2.2.1 (wsV μ.1.cls idx μ'.1.cls μ'.1 μ'.2.2.2.2.1) ∧ (∃ ws', μ'.2.2.2.2.1 = Cond.code μ'.1 μ'.2.1 μ'.2.2.1 μ'.2.2.2.1 :: ws') ∧ (μ'.1.cls ≠ "java/lang/invoke/MethodHandle" ∧ μ'.1.cls ≠ "java/lang/invoke/VarHandle" ∧ (parseMethodDescriptor μ'.1.desc).map (fun d => d.parameters.length) = some n)
def ev_kR (μ μ' : ev_M) (mc ms cells slots : Nat) : Prop := μ'.2.2.2.2.2.cells = mc ∧ μ'.2.2.2.2.2.slots = ms ∧ (μ'.2.2.2.2.2.frames + 1 ≤ μ.2.2.2.2.2.frames ∧ 8 + (μ'.2.2.1 + 11) + μ'.2.2.2.2.2.locals ≤ μ.2.2.2.2.2.locals) ∧ cells + mc ≤ μ.2.2.2.2.2.cells ∧ slots + ms ≤ μ.2.2.2.2.2.slots
section EVc
variable {π : ev_P} {μ μ' : ev_M} {E : ev_T} {cells slots mc ms : Nat} {lv : List (Option Value)} {st : List Value} {ws : va_W} {Q' : Option Value → va_W → Prop}
theorem ev_callS {idx : Nat} (pc : Nat) (As rest : List Value) (d : decode μ.2.1 pc = .ok (.invokestatic idx, 3)) (hZ : ev_Zok π.2.2.2.2) (hk : ev_kS μ μ' idx As.length) (hR : ev_kR μ μ' mc ms cells slots) (hM : MT π μ' mc ms As ws Q')
    (kk : ∀ (r : Option Value) (w : va_W), Q' r w → EV π μ E (cells + mc) (slots + ms) (pc + 3) lv (r.toList ++ rest) w) (hst : st = As.reverse ++ rest := by rfl) (hrm : (rest.map fun v => v.category).sum ≤ 8 := by exact Nat.le_of_ble_eq_true rfl) : EV π μ E cells slots pc lv st ws := by
  obtain ⟨hG, ⟨ws', hw⟩, hd⟩ := hk
  obtain ⟨r1, r2, r3, r4⟩ := hR
  intro p e s m args below meth c H locs ls A X hl hK hz hP hD hS hA
  have hfix : CallFix p m c μ.2.1 μ.2.2.1 s args μ.2.2.2.2.1 μ.1.cls := ⟨X.1, X.2.1, X.2.2.1, X.2.2.2.1, X.2.2.2.2.1⟩
  subst hst
  refine ev_run (va_runS (As := As) (rest := rest) hfix (hM H.size) (va_cwS As.length X.2.2.2.2.1 hG hw r1 r2 hd r3) ⟨ev_blind hZ _ _ _, fun U hU hW => ev_pre hZ As hK hz hP hD hS hA hU hW⟩ rfl rfl hl.1 rfl (lv_room hrm) d r4) hD hS hA ?_
  intro r w H1 locs1 hq hP1 hD1 hS1
  exact kk r w hq p e s m args below meth c H1 locs1 ls A X hl hK hz hP1 hD1 hS1 hA
theorem ev_recv {D : va_G} {cl : List vw_C} {tys : List (ClassId × FieldType)} {s : State} {ws : va_W} {H : Heap} {q0 b ci : Nat} {fs : List Value} {C : String} {T : u_T} {N : Nat} (hK : va_K D cl tys s) (hP : va_P D cl ws H) (he : ws[q0]? = some (b, .inr (ci, fs))) (hc : cl[ci]? = some (C, T, N)) : ∃ cellB : Cell, H[b]? = some cellB ∧ cellB.vm.isStatics = false ∧ s.vm.findClass C = some cellB.cls := va_recv hK hP hc he
theorem ev_callV {idx b ci : Nat} {fs : List Value} {T : u_T} {N : Nat} (pc q0 : Nat) (As rest : List Value) (d : decode μ.2.1 pc = .ok (.invokevirtual idx, 3)) (hZ : ev_Zok π.2.2.2.2) (hk : ev_kV μ μ' idx As.length) (hR : ev_kR μ μ' mc ms cells slots) (he : ws[q0]? = some (b, .inr (ci, fs))) (hc : π.2.2.1[ci]? = some (μ'.1.cls, T, N)) (hM : MT π μ' mc ms (.ref b :: As) ws Q')
    (kk : ∀ (r : Option Value) (w : va_W), Q' r w → EV π μ E (cells + mc) (slots + ms) (pc + 3) lv (r.toList ++ rest) w) (hst : st = As.reverse ++ .ref b :: rest := by rfl) (hrm : (rest.map fun v => v.category).sum ≤ 8 := by exact Nat.le_of_ble_eq_true rfl) : EV π μ E cells slots pc lv st ws := by
  obtain ⟨hG, ⟨ws', hw⟩, hd⟩ := hk
  obtain ⟨r1, r2, r3, r4⟩ := hR
  intro p e s m args below meth c H locs ls A X hl hK hz hP hD hS hA
  have hfix : CallFix p m c μ.2.1 μ.2.2.1 s args μ.2.2.2.2.1 μ.1.cls := ⟨X.1, X.2.1, X.2.2.1, X.2.2.2.1, X.2.2.2.2.1⟩
  subst hst
  refine ev_run (va_runV (As := As) (rest := rest) (b := b) hfix (hM H.size) (cwV As.length X.2.2.2.2.1 hG hw r1 r2 ⟨rfl, hd⟩ r3) ⟨ev_blind hZ _ _ _, ev_recv hK hP he hc, fun U hU hW => ev_pre hZ (.ref b :: As) hK hz hP hD hS hA hU hW⟩ rfl rfl hl.1 rfl (lv_room hrm) d r4) hD hS hA ?_
  intro r w H1 locs1 hq hP1 hD1 hS1
  exact kk r w hq p e s m args below meth c H1 locs1 ls A X hl hK hz hP1 hD1 hS1 hA
end EVc
theorem mt_mono {π : ev_P} {μ : ev_M} {mc ms : Nat} {av : List Value} {w0 : va_W} {Q Q' : Option Value → va_W → Prop} (h : MT π μ mc ms av w0 Q) (hq : ∀ r w, Q r w → Q' r w) : MT π μ mc ms av w0 Q' := by
  intro sz
  have h1 := h sz
  unfold Met at h1 ⊢
  refine MetFree.mono h1 (fun _ _ z => z) (fun _ _ _ _ _ z => z) ?_
  rintro a s o t - ⟨⟨⟨r, w, e1, e2, e3⟩, e4⟩, e5⟩
  exact ⟨⟨⟨r, w, e1, hq r w e2, e3⟩, e4⟩, e5⟩
