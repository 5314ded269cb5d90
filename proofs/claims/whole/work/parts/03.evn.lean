/-! making objects and arrays, final fields, stores of references, constructors -/
theorem ev_ra {U : State} {c c' : ClassId} {ty : FieldType} (h : va_RA U c ty) (h' : va_RA U c' ty) : c = c' := by
  cases ty with
  | object C =>
    obtain ⟨_, _, -, -, -, h4⟩ := h
    obtain ⟨_, _, -, -, -, h4'⟩ := h'
    exact Option.some.inj (h4.symm.trans h4')
  | _ => exact Option.some.inj (Eq.trans (Eq.symm h) h')
theorem ev_fr {A : Nat → Prop} {ws : va_W} {q : Nat} {x : va_E} (h : va_D A (ws ++ [(q, x)])) : ∀ (k : Nat) (z : Nat × va_E), ws[k]? = some z → z.1 ≠ q := by
  intro k z hk e
  have hl := (List.getElem?_eq_some_iff.mp hk).1
  have h1 := h.1 k ws.length z (q, x) (by rw [List.getElem?_append_left hl]; exact hk) (by rw [List.getElem?_append_right (Nat.le_refl _), Nat.sub_self]; rfl) e
  omega
section EVn
variable {π : ev_P} {μ μ' : ev_M} {E : ev_T} {cells slots mc ms : Nat} {lv : List (Option Value)} {st : List Value} {ws : va_W} {Q' : Option Value → va_W → Prop}
theorem ev_newa {atype : ArrayType} {ty : FieldType} {kA : ClassId} {n : Int32} {N' : Nat} {a0 : vp_A} (pc t0 : Nat) (d : decode μ.2.1 pc = .ok (.newarray atype, 2)) (harr : Cond.arrayClass (newarray.typeOf atype) ∈ μ.2.2.2.2.1) (hty : newarray.typeOf atype = ty) (ht : π.2.2.2.1[t0]? = some (kA, ty))
    (ha : ∀ cA : ClassId, vp_cell cA a0 = arrV cA N' (fun _ => defaultValue ty)) (hn : ¬ n < 0) (hN : n.toNatClampNeg = N') (hbytes : N' * componentBytes ty ≤ 536870912) (hcells : cells + 1 ≤ μ.2.2.2.2.2.cells) (hslots : slots + N' ≤ μ.2.2.2.2.2.slots)
    (kk : ∀ q : Nat, (∀ (k : Nat) (z : Nat × va_E), ws[k]? = some z → z.1 ≠ q) → EV π μ E (cells + 1) (slots + N') (pc + 2) lv (.ref q :: st) (ws ++ [(q, .inl (kA, a0))])) : EV π μ E cells slots pc lv (.int n :: st) ws := by
  intro p e s m args below meth c H locs ls A X hl hK hZ hP hD hS hA
  refine va_newa X.1 X.2.1 (X.2.2.2.2.1 _ harr) hty hK hP hD hS hA ha hn hN hbytes hcells hslots d (fun q cA H1 hK1 hP1 hD1 hS1 => ?_)
  have e1 : cA = kA := ev_ra ((hK1.2 π.2.2.2.1.length (cA, ty) (by rw [List.getElem?_append_right (Nat.le_refl _), Nat.sub_self]; rfl)).2) (hK.2 t0 (kA, ty) ht).2
  subst e1
  exact kk q (ev_fr hD1) p e s m args below meth c H1 locs ls A X hl hK hZ hP1 hD1 hS1 hA
theorem ev_newq {C : String} {idx : Nat} {kA : ClassId} {n : Int32} {N' : Nat} (pc t0 : Nat) (d : decode μ.2.1 pc = .ok (.anewarray idx, 3)) (hcl : Cond.classLink μ.1.cls idx C ∈ μ.2.2.2.2.1) (hov : ∀ s : State, (∃ A, π.2.2.2.2 A s s.heap) → va_AO C s) (ht : π.2.2.2.1[t0]? = some (kA, .object C))
    (hn : ¬ n < 0) (hN : n.toNatClampNeg = N') (hbytes : N' * 4 ≤ 536870912) (hcells : cells + 1 ≤ μ.2.2.2.2.2.cells) (hslots : slots + N' ≤ μ.2.2.2.2.2.slots)
    (kk : ∀ q : Nat, (∀ (k : Nat) (z : Nat × va_E), ws[k]? = some z → z.1 ≠ q) → EV π μ E (cells + 1) (slots + N') (pc + 3) lv (.ref q :: st) (ws ++ [(q, .inl (kA, N', .inr (.inr (.inr (.inr (fun _ => none))))))])) : EV π μ E cells slots pc lv (.int n :: st) ws := by
  intro p e s m args below meth c H locs ls A X hl hK hZ hP hD hS hA
  refine va_newq X.1 X.2.1 X.2.2.2.1 (X.2.2.2.2.1 _ hcl) (hov s ⟨A, hZ⟩) hK hP hD hS hA hn hN hbytes hcells hslots d (fun q cA H1 hK1 hP1 hD1 hS1 => ?_)
  have e1 : cA = kA := ev_ra ((hK1.2 π.2.2.2.1.length (cA, .object C) (by rw [List.getElem?_append_right (Nat.le_refl _), Nat.sub_self]; rfl)).2) (hK.2 t0 (kA, .object C) ht).2
  subst e1
  exact kk q (ev_fr hD1) p e s m args below meth c H1 locs ls A X hl hK hZ hP1 hD1 hS1 hA
theorem ev_new {C : String} {T : u_T} {N ci idx : Nat} {ty : Nat → FieldType} {fs : List Value} (pc : Nat) (d : decode μ.2.1 pc = .ok (.new idx, 3)) (hin : ∀ w ∈ u_ws C T N, w ∈ μ.2.2.2.2.1) (hty : ∀ k, k < N → parseFieldDescriptor (T k).2.2.1 = some (ty k)) (hcl : Cond.classLink μ.1.cls idx C ∈ μ.2.2.2.2.1) (hinst : Cond.instantiable C N ∈ μ.2.2.2.2.1) (hini : Cond.initialized C ∈ μ.2.2.2.2.1)
    (hc : π.2.2.1[ci]? = some (C, T, N)) (hfs : ∀ j, j < N → defaultValue (ty j) = vp_V fs j) (hcells : cells + 1 ≤ μ.2.2.2.2.2.cells) (hslots : slots + N ≤ μ.2.2.2.2.2.slots)
    (kk : ∀ q : Nat, (∀ (k : Nat) (z : Nat × va_E), ws[k]? = some z → z.1 ≠ q) → EV π μ E (cells + 1) (slots + N) (pc + 3) lv (.ref q :: st) (ws ++ [(q, .inr (ci, fs))])) : EV π μ E cells slots pc lv st ws := by
  intro p e s m args below meth c H locs ls A X hl hK hZ hP hD hS hA
  exact va_new (C := C) (T := T) (N := N) X.1 X.2.1 X.2.2.2.2.1 hin ty hty X.2.2.2.1 (X.2.2.2.2.1 _ hcl) (X.2.2.2.2.1 _ hinst) (X.2.2.2.2.1 _ hini) hK hP hD hS hA hc hfs hcells hslots d (fun q H1 hP1 hD1 hS1 => kk q (ev_fr hD1) p e s m args below meth c H1 locs ls A X hl hK hZ hP1 hD1 hS1 hA)
def ev_FF (cl : List vw_C) (Ts : List Cond) (own : String) (idx ci k : Nat) (ty : FieldType) : Prop := ∃ (C : String) (T : u_T) (N : Nat) (ty0 : Nat → FieldType), cl[ci]? = some (C, T, N) ∧ (∀ w ∈ u_ws C T N, w ∈ Ts) ∧ k < N ∧ Cond.fieldLink own idx (T k).1 (T k).2.1 (T k).2.2.1 ∈ Ts ∧
  (∀ k, k < N → parseFieldDescriptor (T k).2.2.1 = some (ty0 k)) ∧ (∀ a, a < N → ∀ b, b < N → a ≠ b → (T a).2.1 ≠ (T b).2.1) ∧ (T k).2.2.2 = true ∧ parseFieldDescriptor (T k).2.2.1 = some ty ∧ (T k).1 = own
theorem ev_putF {idx ci a : Nat} {fs : List Value} {v : Value} {ty : FieldType} (pc q0 k : Nat) (d : decode μ.2.1 pc = .ok (.putfield idx, 3)) (hF : ev_FF π.2.2.1 μ.2.2.2.2.1 μ.1.cls idx ci k ty) (hnm : μ.1.name = "<init>") (he : ws[q0]? = some (a, .inr (ci, fs))) (hl0 : k < fs.length) (hn : narrow ty v = v) (hfit : fits ty v = true)
    (kk : EV π μ E cells slots (pc + 3) lv st (ws.set q0 (a, .inr (ci, fs.set k v)))) : EV π μ E cells slots pc lv (v :: .ref a :: st) ws := by
  obtain ⟨C, T, N, ty0, hc, hin, hk, hlk, hty, hnm0, hfin, hd, hdecl⟩ := hF
  intro p e s m args below meth c H locs ls A X hl hK hZ hP hD hS hA
  exact va_putF (C := C) (T := T) (N := N) X.1 X.2.1 X.2.2.2.2.1 hin ty0 hty hnm0 X.2.2.2.1 hK hP hD hS q0 he hc k hk (X.2.2.2.2.1 _ hlk) (fun _ h => h) hfin (X.2.2.2.2.2.2.2.1.trans hnm) hdecl hd hn hfit hl0 d (fun H1 locs1 hP1 hD1 hS1 => kk p e s m args below meth c H1 locs1 ls A X hl hK hZ hP1 hD1 hS1 hA)
theorem ev_aast {a : Nat} {cA : ClassId} {r : vw_C} {n v qk ci : Nat} {vs : List Value} {f : Nat → Option Nat} {i : Int32} (pc q0 t0 : Nat) (d : decode μ.2.1 pc = .ok (.aastore, 1)) (ha : ws[q0]? = some (a, .inl (cA, n, .inr (.inr (.inr (.inr f)))))) (ht : π.2.2.2.1[t0]? = some (cA, .object r.1)) (hv : ws[qk]? = some (v, .inr (ci, vs))) (hc : π.2.2.1[ci]? = some r) (hin : vp_in i n)
    (kk : EV π μ E cells slots (pc + 1) lv st (ws.set q0 (a, .inl (cA, n, .inr (.inr (.inr (.inr (va_up f i.toNatClampNeg (some v))))))))) : EV π μ E cells slots pc lv (.ref v :: .int i :: .ref a :: st) ws :=
  fun p e s m args below meth c H locs ls A X hl hK hZ hP hD hS hA => va_astq X.1 X.2.1 hK hP hD hS q0 t0 qk ci ha ht hv hc hin d (fun H1 locs1 hP1 hD1 hS1 => kk p e s m args below meth c H1 locs1 ls A X hl hK hZ hP1 hD1 hS1 hA)
theorem ev_obj {idx a : Nat} (pc : Nat) (d : decode μ.2.1 pc = .ok (.invokespecial idx, 3)) (h1 : Cond.methodLink μ.1.cls idx Lib.objectInit ∈ μ.2.2.2.2.1) (h2 : Cond.instanceMethod Lib.objectInit ∈ μ.2.2.2.2.1) (h3 : Cond.code Lib.objectInit ⟨#[0xb1]⟩ 1 none ∈ μ.2.2.2.2.1) (hf : 1 ≤ μ.2.2.2.2.2.frames) (hlo : 20 ≤ μ.2.2.2.2.2.locals)
    (kk : EV π μ E cells slots (pc + 3) lv st ws) (hrm : (st.map fun v => v.category).sum ≤ 8 := by exact Nat.le_of_ble_eq_true rfl) : EV π μ E cells slots pc lv (.ref a :: st) ws := by
  intro p e s m args below meth c H locs ls A X hl hK hZ hP hD hS hA
  refine W.objInit X.1 X.2.1 X.2.2.2.1 (X.2.2.2.2.1 _ h1) (X.2.2.2.2.1 _ h2) (X.2.2.2.2.1 _ h3) rfl (by rw [X.2.2.1]; exact hl.1) rfl d hf ?_ (kk p e s m args below meth c H locs ls A X hl hK hZ hP hD hS hA)
  have := lv_room (m := m) (pc := pc) (ls := ls) (rest := .ref a :: st) hrm
  omega
def ev_kI (μ μ' : ev_M) (idx n : Nat) : Prop := GoodIn μ.2.2.2.2.1 μ'.2.2.2.2.1 ∧ (∃ ws', μ'.2.2.2.2.1 = Cond.code μ'.1 μ'.2.1 μ'.2.2.1 none :: ws') ∧ Cond.initialized μ'.1.cls ∈ μ.2.2.2.2.1 ∧ Cond.methodLink μ.1.cls idx μ'.1 ∈ μ.2.2.2.2.1 ∧ Cond.instanceMethod μ'.1 ∈ μ.2.2.2.2.1 ∧ μ'.1.name = "<init>" ∧ (μ'.1.cls ≠ "java/lang/invoke/MethodHandle" ∧ μ'.1.cls ≠ "java/lang/invoke/VarHandle" ∧ (parseMethodDescriptor μ'.1.desc).map (fun d => d.parameters.length) = some n)
theorem ev_callI {idx b : Nat} (pc : Nat) (As rest : List Value) (d : decode μ.2.1 pc = .ok (.invokespecial idx, 3)) (hZ : ev_Zok π.2.2.2.2) (hk : ev_kI μ μ' idx As.length) (hR : ev_kR μ μ' mc ms cells slots) (hM : MT π μ' mc ms (.ref b :: As) ws Q')
    (kk : ∀ (r : Option Value) (w : va_W), Q' r w → EV π μ E (cells + mc) (slots + ms) (pc + 3) lv (r.toList ++ rest) w) (hst : st = As.reverse ++ .ref b :: rest := by rfl) (hrm : (rest.map fun v => v.category).sum ≤ 8 := by exact Nat.le_of_ble_eq_true rfl) : EV π μ E cells slots pc lv st ws := by
  obtain ⟨hG, ⟨ws', hw⟩, k1, k2, k3, k4, hd⟩ := hk
  obtain ⟨r1, r2, r3, r4⟩ := hR
  intro p e s m args below meth c H locs ls A X hl hK hz hP hD hS hA
  have hfix : CallFix p m c μ.2.1 μ.2.2.1 s args μ.2.2.2.2.1 μ.1.cls := ⟨X.1, X.2.1, X.2.2.1, X.2.2.2.1, X.2.2.2.2.1⟩
  subst hst
  refine ev_run (va_runI (As := As) (rest := rest) (b := b) hfix (hM H.size) (cwI As.length X.2.2.2.2.1 hG hw r1 r2 (X.2.2.2.2.1 _ k1) (X.2.2.2.2.1 _ k2) (X.2.2.2.2.1 _ k3) k4 hd r3) ⟨ev_blind hZ _ _ _, fun U hU hW => ev_pre hZ (.ref b :: As) hK hz hP hD hS hA hU hW⟩ rfl rfl hl.1 rfl (lv_room hrm) d r4) hD hS hA ?_
  intro r w H1 locs1 hq hP1 hD1 hS1
  exact kk r w hq p e s m args below meth c H1 locs1 ls A X hl hK hz hP1 hD1 hS1 hA
end EVn
