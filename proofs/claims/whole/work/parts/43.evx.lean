/-! methods that may throw, over EV -/
def ev_XC (π : ev_P) (X : String → va_W → Prop) (A : Nat → Prop) : String → State → State → Prop := fun E st t => (∃ w : va_W, X E w ∧ va_P π.2.1 π.2.2.1 w t.heap ∧ va_D A w) ∧ va_F A st t
def ev_EX (π : ev_P) (mc ms : Nat) (Q : Option Value → va_W → Prop) (X : String → va_W → Prop) : ev_T := fun below args s A => vx_MQ below (ev_Q π Q A) (ev_XC π X A) args s mc ms A
def MX (π : ev_P) (μ : ev_M) (mc ms : Nat) (av : List Value) (w0 : va_W) (Q : Option Value → va_W → Prop) (X : String → va_W → Prop) : Prop :=
  ∀ sz : Nat, vx_Met π.1 μ.1 μ.2.2.2.2.1 μ.2.2.2.2.2 (ev_Pc π av w0 sz) (ev_Q π Q (va_A w0 sz)) (ev_XC π X (va_A w0 sz)) mc ms (va_A w0 sz)
theorem mx_of {π : ev_P} {μ : ev_M} {mc ms : Nat} {av : List Value} {w0 : va_W} {Q : Option Value → va_W → Prop} {X : String → va_W → Prop} {ws' : List Cond} (hy : plainName μ.1.cls = true) (hw : μ.2.2.2.2.1 = Cond.code μ.1 μ.2.1 μ.2.2.1 μ.2.2.2.1 :: ws') (hlen : (lg_sl av).length ≤ μ.2.2.1)
    (k : EV π μ (ev_EX π mc ms Q X) 0 0 0 (ev_lv av μ.2.2.1) [] w0) : MX π μ mc ms av w0 Q X := by
  intro sz
  refine vx_ofW (cc := μ.2.1) (maxL := μ.2.2.1) (ret := μ.2.2.2.1) hy hw ?_
  intro p e s m args below meth c s₁ B hml hex hv
  obtain ⟨rfl, hsz, hP, hK, hD0, hZ⟩ := hv
  have hts := atoms_spec (ws := μ.2.2.2.2.1) B.pre
  have hown := findClass_of_methodNamed B.named
  have hnm := (name_of_methodNamed B.named B.method).1
  have htb : c.exceptionTable.toList = ev_tb μ.2.2.2.2.1 := by
    rw [hw]
    show c.exceptionTable.toList = []
    cases hx : c.exceptionTable.toList with
    | nil => rfl
    | cons a b => exact absurd (hex a (by rw [hx]; exact List.mem_cons_self)) (fun z => z)
  subst hsz
  have hD := hD0.self (sz := s.heap.size)
  rw [lg_entry_eq]
  exact k p e s m _ below meth c s.heap [] _ (va_A w0 s.heap.size) ⟨B.exec, B.bytes, hml, hown, hts, B.notSynchronized, B.returns, hnm, htb⟩ (ev_entry av hlen) hK hZ hP hD va_S.rf (fun q h => Or.inr h)
section EVx
variable {π : ev_P} {μ μ' : ev_M} {E : ev_T} {cells slots mc ms : Nat} {lv : List (Option Value)} {st : List Value} {ws : va_W} {Q : Option Value → va_W → Prop} {X : String → va_W → Prop}
theorem ev_toX {pc : Nat} (k : EV π μ (ev_E π mc ms Q) cells slots pc lv st ws) : EV π μ (ev_EX π mc ms Q X) cells slots pc lv st ws :=
  fun p e s m args below meth c H locs ls A x hl hK hZ hP hD hS hA => vx_ret (k p e s m args below meth c H locs ls A x hl hK hZ hP hD hS hA)
/-- more room counts as used -/
theorem ev_pad {pc : Nat} (c' s' : Nat) (h1 : cells ≤ c') (h2 : slots ≤ s') (k : EV π μ E c' s' pc lv st ws) : EV π μ E cells slots pc lv st ws :=
  fun p e s m args below meth c H locs ls A x hl hK hZ hP hD hS hA T hT Y => k p e s m args below meth c H locs ls A x hl hK hZ hP hD hS hA T hT (stand_widen Y h1 h2)
/-- a part of the world is enough, in any order -/
theorem ev_sub {pc : Nat} {ws' : va_W} (g : Nat → Nat) (hg : ∀ (k : Nat) (q : Nat × va_E), ws'[k]? = some q → ws[g k]? = some q) (hi : ∀ i j : Nat, i < ws'.length → j < ws'.length → g i = g j → i = j) (k : EV π μ E cells slots pc lv st ws') : EV π μ E cells slots pc lv st ws :=
  fun p e s m args below meth c H locs ls A x hl hK hZ hP hD hS hA => k p e s m args below meth c H locs ls A x hl hK hZ (hP.by g hg) (hD.by g hg hi) hS hA
theorem ev_xk {p : Program} {s : State} {H : Heap} {A : Nat → Prop} {locs : List Loc} {cls : String} (hX : X cls ws) (hP : va_P π.2.1 π.2.2.1 ws H) (hD : va_D A ws) (hS : va_S A s.heap H locs) : ∀ t : State, s.vm.Alike t.vm → H.size ≤ t.heap.size → (∀ q : Nat, q < H.size → t.heap[q]? = H[q]?) → ev_XC π X A cls s t := by
  intro t _ h1 h2
  refine ⟨⟨ws, hX, hP.kept (fun k q hk => h2 q.1 (hP k q hk).lt), hD⟩, Nat.le_trans hS.1 h1, fun q h3 h4 => ?_⟩
  rw [h2 q (Nat.lt_of_lt_of_le h3 hS.1)]
  exact hS.2.1 q h3 h4
/-- what throwing wants of Z: the string, the two statics of Throwable, the words that aren't good ones -/
def ev_Zx (π : ev_P) (own : String) (is : Nat) (text : String) (sa ic : Nat) (cls : String) (names : List String) : Prop := ∀ (A : Nat → Prop) (s : State), π.2.2.2.2 A s s.heap → vk_R own is text sa s ∧ vx_Zq Bundle.tN "UNASSIGNED_STACK" Bundle.steD A s s.heap ∧ vx_Zq Bundle.tN "SUPPRESSED_SENTINEL" Bundle.listD A s s.heap ∧ ∀ w ∈ (ox_at own ic cls names).filter (fun w => !goodWord w), va_Nw w s
def ev_xw (μ : ev_M) (own cls : String) (names : List String) (ik ic : Nat) : Prop := μ.1.cls = own ∧ Bundle.fit cls = true ∧ (∀ n ∈ names, Bundle.fit n = true) ∧ Cond.classLink own ik cls ∈ μ.2.2.2.2.1 ∧ Cond.initialized cls ∈ μ.2.2.2.2.1 ∧ (∀ w ∈ (ox_at own ic cls names).filter goodWord, w ∈ μ.2.2.2.2.1) ∧ ∀ w ∈ Cond.classLink own ik cls :: Cond.initialized cls :: ox_at own ic cls names, vx_ot w = true
theorem ev_xat {s : State} {args : Array Value} {own cls : String} {names : List String} {ik ic : Nat} {Ts : List Cond} (hts : ∀ w ∈ Ts, w.before args s = true) (h1 : ∀ w ∈ (ox_at own ic cls names).filter goodWord, w ∈ Ts) (h2 : ∀ w ∈ Cond.classLink own ik cls :: Cond.initialized cls :: ox_at own ic cls names, vx_ot w = true) (h3 : ∀ w ∈ (ox_at own ic cls names).filter (fun w => !goodWord w), va_Nw w s) : ∀ w ∈ ox_at own ic cls names, w.before args s = true := by
  refine vx_hat (B := (ox_at own ic cls names).filter (fun w => !goodWord w)) (fun w h => hts w (h1 w h)) (fun w h => h) (fun w h => ?_)
  have hm := List.mem_filter.mp h
  have ho := h2 w (List.mem_cons_of_mem _ (List.mem_cons_of_mem _ hm.1))
  have hg : goodWord w = false := by
    have := hm.2
    cases hh : goodWord w with
    | true => rw [hh] at this; cases this
    | false => rfl
  rw [vx_ot, hg, Bool.or_false] at ho
  exact va_Nw.use ho (h3 w h)
theorem ev_throwS {own cls text : String} {names : List String} {ik is ic sa : Nat} (pc : Nat) (d0 : decode μ.2.1 pc = .ok (.new ik, 3)) (d3 : decode μ.2.1 (pc + 3) = .ok (.dup, 1)) (d4 : decode μ.2.1 (pc + 4) = .ok (.ldc is, 2)) (d6 : decode μ.2.1 (pc + 6) = .ok (.invokespecial ic, 3)) (d9 : decode μ.2.1 (pc + 9) = .ok (.athrow, 1))
    (hl : π.1.stackTraces = false) (hz : ev_Zx π own is text sa ic cls names) (hw : ev_xw μ own cls names ik ic) (htb : ev_tb μ.2.2.2.2.1 = []) (hf : names.length + 3 < μ.2.2.2.2.2.frames) (hlo : (st.map fun v => v.category).sum + (13 * (names.length + 1) + 43) ≤ μ.2.2.2.2.2.locals) (hc : cells + 1 ≤ μ.2.2.2.2.2.cells) (hs : slots + 6 ≤ μ.2.2.2.2.2.slots) (hc2 : cells + 1 ≤ mc) (hs2 : slots + 6 ≤ ms) (hX : X cls ws) :
    EV π μ (ev_EX π mc ms Q X) cells slots pc lv st ws := by
  obtain ⟨rfl, w2, w3, w4, w5, w6, w7⟩ := hw
  intro p e s m args below meth c H locs ls A x hl9 hK hZ hP hD hS hA
  obtain ⟨z1, z2, z3, z4⟩ := hz A s hZ
  have hat := ev_xat (ik := ik) x.2.2.2.2.1 w6 w7 z4
  by_cases cn : cls = nx_cls
  · rw [ox_at, if_pos cn] at hat w7
    exact nx_go (n := 2) x.1 x.2.1 hl nx_0 nx_1 nx_2 nx_5 x.2.2.2.1 w2 w3 (x.2.2.2.2.1 _ w4) (x.2.2.2.2.1 _ w5) z1 hat w7 z2 z3 hS (hl9.1.trans x.2.2.1.symm) d0 d3 d6 d9 (fun R1 s1 T1 L1 c1 n1 q X1 hs1 ho1 tg go => X1.ldcString x.1 ho1 hs1.1 hs1.2 rfl (by rw [x.2.1]; exact d4) _ go) (fun y hy => by rw [x.2.2.2.2.2.2.2.2, htb] at hy; cases hy) hf hlo hc hs x.2.2.2.2.2.1 (ev_xk (p := p) hX hP hD hS) hS.2.2 hc2 hs2
  · rw [ox_at, if_neg cn] at hat w7
    exact vx_throwS x.1 x.2.1 hl x.2.2.2.1 w2 w3 (x.2.2.2.2.1 _ w4) (x.2.2.2.2.1 _ w5) z1 hat w7 z2 z3 hS (hl9.1.trans x.2.2.1.symm) d0 d3 d4 d6 d9 (fun y hy => by rw [x.2.2.2.2.2.2.2.2, htb] at hy; cases hy) hf hlo hc hs x.2.2.2.2.2.1 (ev_xk (p := p) hX hP hD hS) hS.2.2 hc2 hs2
theorem ev_throwSW {own cls text : String} {names : List String} {ik is ic sa : Nat} (pc : Nat) (d0 : decode μ.2.1 pc = .ok (.new ik, 3)) (d3 : decode μ.2.1 (pc + 3) = .ok (.dup, 1)) (d4 : decode μ.2.1 (pc + 4) = .ok (.ldc_w is, 3)) (d7 : decode μ.2.1 (pc + 7) = .ok (.invokespecial ic, 3)) (d10 : decode μ.2.1 (pc + 10) = .ok (.athrow, 1))
    (hl : π.1.stackTraces = false) (hz : ev_Zx π own is text sa ic cls names) (hw : ev_xw μ own cls names ik ic) (htb : ev_tb μ.2.2.2.2.1 = []) (hf : names.length + 3 < μ.2.2.2.2.2.frames) (hlo : (st.map fun v => v.category).sum + (13 * (names.length + 1) + 43) ≤ μ.2.2.2.2.2.locals) (hc : cells + 1 ≤ μ.2.2.2.2.2.cells) (hs : slots + 6 ≤ μ.2.2.2.2.2.slots) (hc2 : cells + 1 ≤ mc) (hs2 : slots + 6 ≤ ms) (hX : X cls ws) :
    EV π μ (ev_EX π mc ms Q X) cells slots pc lv st ws := by
  obtain ⟨rfl, w2, w3, w4, w5, w6, w7⟩ := hw
  intro p e s m args below meth c H locs ls A x hl9 hK hZ hP hD hS hA
  obtain ⟨z1, z2, z3, z4⟩ := hz A s hZ
  have hat := ev_xat (ik := ik) x.2.2.2.2.1 w6 w7 z4
  by_cases cn : cls = nx_cls
  · rw [ox_at, if_pos cn] at hat w7
    exact nx_go (n := 3) x.1 x.2.1 hl nx_0 nx_1 nx_2 nx_5 x.2.2.2.1 w2 w3 (x.2.2.2.2.1 _ w4) (x.2.2.2.2.1 _ w5) z1 hat w7 z2 z3 hS (hl9.1.trans x.2.2.1.symm) d0 d3 d7 d10 (fun R1 s1 T1 L1 c1 n1 q X1 hs1 ho1 tg go => X1.ldcStringW x.1 ho1 hs1.1 hs1.2 rfl (by rw [x.2.1]; exact d4) _ go) (fun y hy => by rw [x.2.2.2.2.2.2.2.2, htb] at hy; cases hy) hf hlo hc hs x.2.2.2.2.2.1 (ev_xk (p := p) hX hP hD hS) hS.2.2 hc2 hs2
  · rw [ox_at, if_neg cn] at hat w7
    exact vx_throwSW x.1 x.2.1 hl x.2.2.2.1 w2 w3 (x.2.2.2.2.1 _ w4) (x.2.2.2.2.1 _ w5) z1 hat w7 z2 z3 hS (hl9.1.trans x.2.2.1.symm) d0 d3 d4 d7 d10 (fun y hy => by rw [x.2.2.2.2.2.2.2.2, htb] at hy; cases hy) hf hlo hc hs x.2.2.2.2.2.1 (ev_xk (p := p) hX hP hD hS) hS.2.2 hc2 hs2
end EVx
