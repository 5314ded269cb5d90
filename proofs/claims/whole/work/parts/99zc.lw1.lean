/-! the law: rows for methods with handlers, for the script, for its end -/
theorem mt_ofH {π : ev_P} {μ : ev_M} {mc ms : Nat} {av : List Value} {w0 : va_W} {Q : Option Value → va_W → Prop} {ws' : List Cond} {hh : List (Nat × Nat × Nat × Nat)} (hy : plainName μ.1.cls = true) (hw : μ.2.2.2.2.1 = Cond.codeWith μ.1 μ.2.1 μ.2.2.1 μ.2.2.2.1 hh :: ws') (hlen : (lg_sl av).length ≤ μ.2.2.1)
    (k : EV π μ (ev_E π mc ms Q) 0 0 0 (ev_lv av μ.2.2.1) [] w0) : MT π μ mc ms av w0 Q := by
  intro sz
  refine MetFree.of_bodyS (code := μ.2.1) (maxLocals := μ.2.2.1) (ret := μ.2.2.2.1) hy ?_ ?_
  · intro args s m h hn
    obtain ⟨m9, meth, c, hn9, h1, h2, h3, h4, -, h5, h6, -⟩ := Cond.codeWith_spec (atoms_spec (ws := μ.2.2.2.2.1) h _ (by rw [hw]; exact List.mem_cons_self))
    cases hn.symm.trans hn9
    exact ⟨meth, c, h1, h2, h3, h4, h5, h6⟩
  · intro p e s m args below meth c s₁ B hml hv _
    have hh0 : s₁.heap = s.heap := by rw [B.state]; rfl
    obtain ⟨rfl, hsz, hP, hK, hD0, hZ⟩ := hv
    have hts := atoms_spec (ws := μ.2.2.2.2.1) B.pre
    have hown := findClass_of_methodNamed B.named
    have hnm := (name_of_methodNamed B.named B.method).1
    have htb : c.exceptionTable.toList = ev_tb μ.2.2.2.2.1 := by
      rw [vx_table (x := μ.1) B (hts _ (by rw [hw]; exact List.mem_cons_self)), hw]
      rfl
    subst hsz
    have hD := hD0.self (sz := s.heap.size)
    have K := k p e s m _ below meth c s.heap [] _ (va_A w0 s.heap.size) ⟨B.exec, B.bytes, hml, hown, hts, B.notSynchronized, B.returns, hnm, htb⟩ (ev_entry av hlen) hK hZ hP hD va_S.rf (fun q h => Or.inr h)
    rw [← lg_entry_eq] at K
    obtain ⟨t, a1, o, b1, b2, b3⟩ := K s₁ hh0 (Stand.of_body B)
    exact ⟨t, o, a1, b1, b2, ⟨b3.1, b3.2⟩⟩
theorem ev_runX {π : ev_P} {p : Program} {e : Env} {R : Room} {s : State} {m : MethodId} {args : Array Value} {below : List Frame} {meth : Method} {c : Code} {H : Heap} {locs : List Loc} {cells slots mc ms pc : Nat} {ls : Array Slot} {st0 rest : List Value} {Q : State → Prop} {Q' : Option Value → va_W → Prop} {X : String → va_W → Prop} {a : Array Value} {ws : va_W} {A : Nat → Prop}
    (hr : vx_Run p π.1 e R s m args below meth c H locs cells slots mc ms (F0 m pc ls st0) rest (ev_Q π Q' (va_A ws H.size) a) (ev_XC π X (va_A ws H.size)) (va_A ws H.size)) (hD : va_D A ws) (hS : va_S A s.heap H locs) (hA : ∀ q : Nat, s.heap.size ≤ q → A q)
    (kx : ∀ (E : String) (ce : Cell) (q9 : Addr) (w : va_W) (H1 : Heap) (locs1 : List Loc), X E w → va_P π.2.1 π.2.2.1 w H1 → va_D A w → va_S A s.heap H1 locs1 → H1[q9]? = some ce → ce.vm = .none → s.vm.findClass E = some ce.cls → vx_W p π.1 e R s m args below meth c H1 locs1 (cells + mc) (slots + ms) Q (F0 m pc ls rest) q9)
    (kk : ∀ (r : Option Value) (w : va_W) (H1 : Heap) (locs1 : List Loc), Q' r w → va_P π.2.1 π.2.2.1 w H1 → va_D A w → va_S A s.heap H1 locs1 → W p π.1 e R s m args below meth c H1 locs1 (cells + mc) (slots + ms) Q (F0 m (pc + 3) ls (r.toList ++ rest))) : W p π.1 e R s m args below meth c H locs cells slots Q (F0 m pc ls st0) := by
  intro T hT Y
  have hF := ev_inA hD hS hA
  rcases hr T hT Y with ⟨v, st₀, t, T', L, h0, X', hL, e1, e2, ⟨⟨r, w, hv, hq, hP1, hD1⟩, hz, hk⟩, st⟩ | ⟨q, st₀, t, T', L, E, ce, h0, X', hL, e1, e2, ⟨⟨w, hq, hP1, hD1⟩, hz, hk⟩, hce, hcv, hcl, st⟩
  · cases hv
    rw [h0] at hz hk
    obtain ⟨t2, a1, b1⟩ := kk v w T'.heap (locs ++ L) hq (by rw [e1]; exact hP1) (hD1.weaken (fun k q hk' h => hF _ h))
      ⟨Nat.le_trans hS.1 (by rw [e1]; exact hz), fun q h1 h2 => by rw [e1, hk q (Nat.lt_of_lt_of_le h1 hS.1) (fun z => h2 (hF q z))]; exact hS.2.1 q h1 h2, fun q hq => by
        rcases List.mem_append.mp hq with h | h
        · exact hS.2.2 q h
        · exact hF _ (hL q h)⟩ T' rfl X'
    exact ⟨t2, st t2 a1, b1⟩
  · rw [h0] at hz hk
    obtain ⟨t2, a1, b1⟩ := kx E ce q w T'.heap (locs ++ L) hq (by rw [e1]; exact hP1) (hD1.weaken (fun k q hk' h => hF _ h))
      ⟨Nat.le_trans hS.1 (by rw [e1]; exact hz), fun q h1 h2 => by rw [e1, hk q (Nat.lt_of_lt_of_le h1 hS.1) (fun z => h2 (hF q z))]; exact hS.2.1 q h1 h2, fun q hq => by
        rcases List.mem_append.mp hq with h | h
        · exact hS.2.2 q h
        · exact hF _ (hL q h)⟩ (by rw [e1]; exact hce) hcv hcl T' rfl X'
    exact ⟨t2, st.trans a1, b1⟩
theorem cast_self {s : State} {E : String} {c : ClassId} {args : Array Value} (h : s.vm.findClass E = some c) : (Cond.castable E E).before args s = true := by
  have h1 : s.vm.assignable c c = true := Vm.assignable_self s.vm c
  simp [Cond.before, Cond.holds, Cond.value, h, h1]
section LWr
variable {π : ev_P} {μ μ' : ev_M} {E : ev_T} {cells slots mc ms : Nat} {lv : List (Option Value)} {st : List Value} {ws : va_W} {Q' : Option Value → va_W → Prop} {X : String → va_W → Prop}
/-- where an exception goes -/
def ev_kX (π : ev_P) (μ : ev_M) (E : ev_T) (cells slots pc : Nat) (lv : List (Option Value)) (X : String → va_W → Prop) : Prop := ∀ (E' : String) (w : va_W), X E' w → ∃ (pre : List ExceptionTableEntry) (x : ExceptionTableEntry) (suf : List ExceptionTableEntry), ev_tb μ.2.2.2.2.1 = pre ++ x :: suf ∧ (∀ z ∈ pre, covers z pc = false ∨ (z.catchType ≠ 0 ∧ ∃ nm : String, Cond.classLink μ.1.cls z.catchType nm ∈ μ.2.2.2.2.1 ∧ ∀ (A : Nat → Prop) (s : State), π.2.2.2.2 A s s.heap → va_Nc E' nm s)) ∧ covers x pc = true ∧ x.catchType ≠ 0 ∧ Cond.classLink μ.1.cls x.catchType E' ∈ μ.2.2.2.2.1 ∧ ∀ q : Nat, EV π μ E cells slots x.handlerPc lv [.ref q] w
theorem ev_callVX {idx b ci : Nat} {fs : List Value} {T : u_T} {N : Nat} (pc q0 : Nat) (As rest : List Value) (d : decode μ.2.1 pc = .ok (.invokevirtual idx, 3)) (hZ : ev_Zok π.2.2.2.2) (hk : ev_kV μ μ' idx As.length) (hR : ev_kR μ μ' mc ms cells slots) (he : ws[q0]? = some (b, .inr (ci, fs))) (hc : π.2.2.1[ci]? = some (μ'.1.cls, T, N)) (hM : MX π μ' mc ms (.ref b :: As) ws Q' X)
    (kx : ev_kX π μ E (cells + mc) (slots + ms) pc lv X) (kk : ∀ (r : Option Value) (w : va_W), Q' r w → EV π μ E (cells + mc) (slots + ms) (pc + 3) lv (r.toList ++ rest) w) (hst : st = As.reverse ++ .ref b :: rest := by rfl) (hrm : (rest.map fun v => v.category).sum ≤ 8 := by exact Nat.le_of_ble_eq_true rfl) : EV π μ E cells slots pc lv st ws := by
  obtain ⟨hG, ⟨ws', hw⟩, hd⟩ := hk
  obtain ⟨r1, r2, r3, r4⟩ := hR
  intro p e s m args below meth c H locs ls A Y hl hK hz hP hD hS hA
  have hfix : CallFix p m c μ.2.1 μ.2.2.1 s args μ.2.2.2.2.1 μ.1.cls := ⟨Y.1, Y.2.1, Y.2.2.1, Y.2.2.2.1, Y.2.2.2.2.1⟩
  subst hst
  refine ev_runX (vx_runV (As := As) (rest := rest) (b := b) hfix (hM H.size) (cwV As.length Y.2.2.2.2.1 hG hw r1 r2 ⟨rfl, hd⟩ r3) ⟨ev_blind hZ _ _ _, ev_recv hK hP he hc, fun U hU hW => ev_pre hZ (.ref b :: As) hK hz hP hD hS hA hU hW⟩ rfl rfl hl.1 rfl (lv_room hrm) d r4) hD hS hA ?_ ?_
  · intro E' ce q9 w H1 locs1 hx hP1 hD1 hS1 hce hcv hcl
    obtain ⟨pre, x, suf, h1, h2, h3, h4, h5, h6⟩ := kx E' w hx
    refine vx_catch (own := μ.1.cls) (name := E') Y.2.2.2.1 pre x suf (Y.2.2.2.2.2.2.2.2.trans h1) (fun z hzz => ?_) h3 h4 (Y.2.2.2.2.1 _ h5) (cast_self hcl) hce hcv hcl (h6 q9 p e s m args below meth c H1 locs1 ls A Y hl hK hz hP1 hD1 hS1 hA)
    rcases h2 z hzz with g | ⟨g1, nm, g2, g3⟩
    · exact Or.inl g
    · exact Or.inr ⟨g1, nm, Y.2.2.2.2.1 _ g2, g3 A s hz⟩
  · intro r w H1 locs1 hq hP1 hD1 hS1
    exact kk r w hq p e s m args below meth c H1 locs1 ls A Y hl hK hz hP1 hD1 hS1 hA
def ev_kSW (μ μ' : ev_M) (idx n : Nat) (hh : List (Nat × Nat × Nat × Nat)) : Prop := GoodIn μ.2.2.2.2.1 (va_wsS μ.1.cls idx μ'.1 μ'.2.2.2.2.1) ∧ (∃ ws', μ'.2.2.2.2.1 = Cond.codeWith μ'.1 μ'.2.1 μ'.2.2.1 μ'.2.2.2.1 hh :: ws') ∧ (μ'.1.cls ≠ "java/lang/invoke/MethodHandle" ∧ μ'.1.cls ≠ "java/lang/invoke/VarHandle" ∧ (parseMethodDescriptor μ'.1.desc).map (fun d => d.parameters.length) = some n)
theorem ev_callSW {idx : Nat} {hh : List (Nat × Nat × Nat × Nat)} (pc : Nat) (As rest : List Value) (d : decode μ.2.1 pc = .ok (.invokestatic idx, 3)) (hZ : ev_Zok π.2.2.2.2) (hk : ev_kSW μ μ' idx As.length hh) (hR : ev_kR μ μ' mc ms cells slots) (hM : MT π μ' mc ms As ws Q')
    (kk : ∀ (r : Option Value) (w : va_W), Q' r w → EV π μ E (cells + mc) (slots + ms) (pc + 3) lv (r.toList ++ rest) w) (hst : st = As.reverse ++ rest := by rfl) (hrm : (rest.map fun v => v.category).sum ≤ 8 := by exact Nat.le_of_ble_eq_true rfl) : EV π μ E cells slots pc lv st ws := by
  obtain ⟨hG, ⟨ws', hw⟩, hd⟩ := hk
  obtain ⟨r1, r2, r3, r4⟩ := hR
  intro p e s m args below meth c H locs ls A X hl hK hz hP hD hS hA
  have hfix : CallFix p m c μ.2.1 μ.2.2.1 s args μ.2.2.2.2.1 μ.1.cls := ⟨X.1, X.2.1, X.2.2.1, X.2.2.2.1, X.2.2.2.2.1⟩
  subst hst
  refine ev_run (vx_runSW (As := As) (rest := rest) hfix (hM H.size) (vx_cwSW (hh := hh) As.length X.2.2.2.2.1 hG hw r1 r2 hd r3) ⟨ev_blind hZ _ _ _, fun U hU hW => ev_pre hZ As hK hz hP hD hS hA hU hW⟩ rfl rfl hl.1 rfl (lv_room hrm) d r4) hD hS hA ?_
  intro r w H1 locs1 hq hP1 hD1 hS1
  exact kk r w hq p e s m args below meth c H1 locs1 ls A X hl hK hz hP1 hD1 hS1 hA
/-- the script -/
def ev_ZS (Z : (Nat → Prop) → State → Heap → Prop) (b L : Nat) (xs : Nat → Int32) : Prop := ∀ (A : Nat → Prop) (s : State), Z A s s.heap → va_X b L xs s s.heap ∧ ¬ A b
theorem va_X.lt {b L : Nat} {xs : Nat → Int32} {s : State} {H : Heap} (h : va_X b L xs s H) : b < H.size := by
  obtain ⟨scr, h1, -⟩ := h
  exact (Array.getElem?_eq_some_iff.mp h1).1
theorem ev_sld {b L : Nat} {xs : Nat → Int32} {i : Int32} (pc : Nat) (d : decode μ.2.1 pc = .ok (.iaload, 1)) (hs : ev_ZS π.2.2.2.2 b L xs) (hin : vp_in i L) (kk : EV π μ E cells slots (pc + 1) lv (.int (xs i.toNatClampNeg) :: st) ws) : EV π μ E cells slots pc lv (.int i :: .ref b :: st) ws :=
  fun p e s m args below meth c H locs ls A X hl hK hZ hP hD hS hA => va_sld X.1 X.2.1 (hs A s hZ).1 (hs A s hZ).1.lt (hs A s hZ).2 hS hin d (kk p e s m args below meth c H locs ls A X hl hK hZ hP hD hS hA)
theorem ev_slen {b L : Nat} {xs : Nat → Int32} (pc : Nat) (d : decode μ.2.1 pc = .ok (.arraylength, 1)) (hs : ev_ZS π.2.2.2.2 b L xs) (kk : EV π μ E cells slots (pc + 1) lv (.int (nI L) :: st) ws) : EV π μ E cells slots pc lv (.ref b :: st) ws :=
  fun p e s m args below meth c H locs ls A X hl hK hZ hP hD hS hA => va_slen X.1 X.2.1 (hs A s hZ).1 (hs A s hZ).1.lt (hs A s hZ).2 hS d (kk p e s m args below meth c H locs ls A X hl hK hZ hP hD hS hA)
/-- places of locals that nobody wants any more -/
theorem ev_fg {pc : Nat} {lv' : List (Option Value)} (h : ∀ (i : Nat) (v : Value), lv'[i]? = some (some v) → lv[i]? = some (some v)) (k : EV π μ E cells slots pc lv' st ws) : EV π μ E cells slots pc lv st ws :=
  fun p e s m args below meth c H locs ls A X hl hK hZ hP hD hS hA => k p e s m args below meth c H locs ls A X ⟨hl.1, hl.2.1, fun i v hi => hl.2.2 i v (h i v hi)⟩ hK hZ hP hD hS hA
end LWr
/-! worlds side by side -/
theorem at_l {a b : va_W} {i : Nat} {q : Nat × va_E} (h : a[i]? = some q) : (a ++ b)[i]? = some q := by
  rw [List.getElem?_append_left (List.getElem?_eq_some_iff.mp h).1]; exact h
theorem at_e {a : va_W} {q : Nat × va_E} : (a ++ [q])[a.length]? = some q := by simp
theorem at_e2 {a b : va_W} {q : Nat × va_E} : (a ++ (b ++ [q]))[a.length + b.length]? = some q := by
  rw [List.getElem?_append_right (by omega), Nat.add_sub_cancel_left]; simp
theorem set_e {a : va_W} {q q' : Nat × va_E} : (a ++ [q]).set a.length q' = a ++ [q'] := by simp
