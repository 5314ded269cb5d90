/-! frames: a contract over a part of the world; nest mates; statics -/
theorem ev_fr1 {π : ev_P} {w0 wr : va_W} {sz : Nat} {a : Array Value} {av : List Value} {s : State} (hZ : ev_Zok π.2.2.2.2) (h : ev_Pc π av (w0 ++ wr) sz a s) : ev_Pc π av w0 sz a s := by
  obtain ⟨h0, h1, hP, hK, hD, hz⟩ := h
  have hg : ∀ (k : Nat) (q : Nat × va_E), w0[k]? = some q → (w0 ++ wr)[k]? = some q := fun k q hk => by
    rw [List.getElem?_append_left (List.getElem?_eq_some_iff.mp hk).1]; exact hk
  refine ⟨h0, h1, hP.by (fun k => k) hg, hK, hD.by (fun k => k) hg (fun i j _ _ e => e), hZ.2.2.1 _ _ _ _ hz ?_⟩
  rintro q (⟨k, e, hk⟩ | hq)
  · exact Or.inl ⟨k, e, hg k _ hk⟩
  · exact Or.inr hq
theorem ev_fr2 {π : ev_P} {w0 wr w1 : va_W} {sz : Nat} {a : Array Value} {av : List Value} {s : State} {H : Heap} (h : ev_Pc π av (w0 ++ wr) sz a s) (hP1 : va_P π.2.1 π.2.2.1 w1 H) (hD1 : va_D (va_A w0 sz) w1) (hF : s.heap.size ≤ H.size ∧ ∀ q : Nat, q < s.heap.size → ¬ va_A w0 sz q → H[q]? = s.heap[q]?) : va_P π.2.1 π.2.2.1 (w1 ++ wr) H ∧ va_D (va_A (w0 ++ wr) sz) (w1 ++ wr) := by
  obtain ⟨h0, h1, hP, hK, hD, hz⟩ := h
  have hr : ∀ (k : Nat) (q : Nat × va_E), wr[k]? = some q → (w0 ++ wr)[w0.length + k]? = some q := fun k q hk => by
    rw [List.getElem?_append_right (Nat.le_add_right _ _), Nat.add_sub_cancel_left]; exact hk
  have hlt : ∀ (k : Nat) (q : Nat × va_E), wr[k]? = some q → q.1 < s.heap.size := fun k q hk => (hP _ q (hr k q hk)).lt
  have hnA : ∀ (k : Nat) (q : Nat × va_E), wr[k]? = some q → ¬ va_A w0 sz q.1 := by
    intro k q hk
    rintro (⟨j, e, hj⟩ | hq)
    · have hl := (List.getElem?_eq_some_iff.mp hj).1
      have := hD.1 j (w0.length + k) (q.1, e) q (by rw [List.getElem?_append_left hl]; exact hj) (hr k q hk) rfl
      omega
    · have := hlt k q hk
      omega
  have hsub : ∀ q, va_A w0 sz q → va_A (w0 ++ wr) sz q := by
    rintro q (⟨k, e, hk⟩ | hq)
    · exact Or.inl ⟨k, e, by rw [List.getElem?_append_left (List.getElem?_eq_some_iff.mp hk).1]; exact hk⟩
    · exact Or.inr hq
  have hP2 : va_P π.2.1 π.2.2.1 wr s.heap := hP.by (fun k => w0.length + k) hr
  have hD2 : va_D (va_A (w0 ++ wr) sz) wr := ⟨fun i j p q hi hj e => by have := hD.1 _ _ p q (hr i p hi) (hr j q hj) e; omega, fun k q hk => Or.inl ⟨w0.length + k, q.2, hr k q hk⟩⟩
  refine ⟨hP1.app (hP2.kept fun k q hk => hF.2 q.1 (hlt k q hk) (hnA k q hk)), va_D.app (hD1.weaken fun k q _ hq => hsub _ hq) hD2 ?_⟩
  intro i j p q hi hj e
  exact hnA j q hj (by rw [← e]; exact hD1.2 i p hi)
theorem ev_fr3 {w0 wr : va_W} {sz : Nat} {s t : State} (h : va_F (va_A w0 sz) s t) : va_F (va_A (w0 ++ wr) sz) s t := by
  refine ⟨h.1, fun q h1 h2 => h.2 q h1 (fun z => h2 ?_)⟩
  rcases z with ⟨k, e, hk⟩ | hq
  · exact Or.inl ⟨k, e, by rw [List.getElem?_append_left (List.getElem?_eq_some_iff.mp hk).1]; exact hk⟩
  · exact Or.inr hq
theorem ev_fr4 {w0 wr : va_W} {sz q : Nat} (z : va_A w0 sz q) : va_A (w0 ++ wr) sz q := by
  rcases z with ⟨k, e, hk⟩ | hq
  · exact Or.inl ⟨k, e, by rw [List.getElem?_append_left (List.getElem?_eq_some_iff.mp hk).1]; exact hk⟩
  · exact Or.inr hq
/-- what the contract doesn't speak of stays -/
theorem mt_frame {π : ev_P} {μ : ev_M} {mc ms : Nat} {av : List Value} {w0 : va_W} {Q : Option Value → va_W → Prop} (hZ : ev_Zok π.2.2.2.2) (h : MT π μ mc ms av w0 Q) (wr : va_W) : MT π μ mc ms av (w0 ++ wr) (fun r w => ∃ w1, w = w1 ++ wr ∧ Q r w1) := by
  intro sz
  have h1 := h sz
  unfold Met at h1 ⊢
  refine MetFree.mono h1 (fun _ _ z => ev_fr1 hZ z) (fun _ _ _ _ _ z => z) ?_
  rintro a s o t hpre ⟨⟨⟨r, w, e1, e2, e3, e4⟩, e5⟩, L, e6, e7⟩
  obtain ⟨f1, f2⟩ := ev_fr2 hpre e3 e4 e5
  exact ⟨⟨⟨r, w ++ wr, e1, ⟨w, rfl, e2⟩, f1, f2⟩, ev_fr3 e5⟩, L, e6, fun q hq => ev_fr4 (e7 q hq)⟩
theorem mx_frame {π : ev_P} {μ : ev_M} {mc ms : Nat} {av : List Value} {w0 : va_W} {Q : Option Value → va_W → Prop} {X : String → va_W → Prop} (hZ : ev_Zok π.2.2.2.2) (h : MX π μ mc ms av w0 Q X) (wr : va_W) : MX π μ mc ms av (w0 ++ wr) (fun r w => ∃ w1, w = w1 ++ wr ∧ Q r w1) (fun E w => ∃ w1, w = w1 ++ wr ∧ X E w1) := by
  intro sz
  have h1 := h sz
  unfold vx_Met at h1 ⊢
  refine MetFree.mono h1 (fun _ _ z => ev_fr1 hZ z) (fun _ _ _ _ _ z => z) ?_
  rintro a s o t hpre (⟨⟨⟨r, w, e1, e2, e3, e4⟩, e5⟩, L, e6, e7⟩ | ⟨q, e0, E, ce, L, ⟨⟨w, x1, x2, x3⟩, x4⟩, y1, y2, y3, y4, y5, y6⟩)
  · obtain ⟨f1, f2⟩ := ev_fr2 hpre e3 e4 e5
    exact Or.inl ⟨⟨⟨r, w ++ wr, e1, ⟨w, rfl, e2⟩, f1, f2⟩, ev_fr3 e5⟩, L, e6, fun q hq => ev_fr4 (e7 q hq)⟩
  · obtain ⟨f1, f2⟩ := ev_fr2 hpre x2 x3 x4
    exact Or.inr ⟨q, e0, E, ce, L, ⟨⟨w ++ wr, ⟨w, rfl, x1⟩, f1, f2⟩, ev_fr3 x4⟩, y1, y2, y3, y4, y5, fun z hz => ev_fr4 (y6 z hz)⟩
section EVf
variable {π : ev_P} {μ μ' : ev_M} {E : ev_T} {cells slots mc ms : Nat} {lv : List (Option Value)} {st : List Value} {ws : va_W} {Q' : Option Value → va_W → Prop}
/-- the two halves of the world change places -/
theorem ev_swap {pc : Nat} {a b : va_W} (k : EV π μ E cells slots pc lv st (b ++ a)) : EV π μ E cells slots pc lv st (a ++ b) := by
  refine ev_sub (fun i => if i < b.length then a.length + i else i - b.length) (fun i q hi => ?_) (fun i j hi hj e => ?_) k
  · split
    · rename_i h
      rw [List.getElem?_append_left h] at hi
      rw [List.getElem?_append_right (Nat.le_add_right _ _), Nat.add_sub_cancel_left]
      exact hi
    · rename_i h
      rw [List.getElem?_append_right (by omega)] at hi
      rw [List.getElem?_append_left (List.getElem?_eq_some_iff.mp hi).1]
      exact hi
  · rw [List.length_append] at hi hj
    split at e <;> split at e <;> omega
/-- a static field -/
theorem ev_gets {C n d : String} {v : Value} {idx : Nat} (pc : Nat) (dd : decode μ.2.1 pc = .ok (.getstatic idx, 3)) (hz : ∀ (A : Nat → Prop) (s : State), π.2.2.2.2 A s s.heap → va_Z C n d v A s s.heap) (hl : Cond.fieldLink μ.1.cls idx C n d ∈ μ.2.2.2.2.1)
    (kk : EV π μ E cells slots (pc + 3) lv (v :: st) ws) : EV π μ E cells slots pc lv st ws :=
  fun p e s m args below meth c H locs ls A X hl9 hK hZ hP hD hS hA => va_gets X.1 X.2.1 (hz A s hZ) hS X.2.2.2.1 (X.2.2.2.2.1 _ hl) (fun _ h => h) dd (kk p e s m args below meth c H locs ls A X hl9 hK hZ hP hD hS hA)
theorem ev_getsN {C n d host : String} {v : Value} {idx : Nat} (pc : Nat) (dd : decode μ.2.1 pc = .ok (.getstatic idx, 3)) (hz : ∀ (A : Nat → Prop) (s : State), π.2.2.2.2 A s s.heap → va_Z C n d v A s s.heap ∧ va_Nw (.fieldLinkNest μ.1.cls idx C n d host) s)
    (kk : EV π μ E cells slots (pc + 3) lv (v :: st) ws) : EV π μ E cells slots pc lv st ws :=
  fun p e s m args below meth c H locs ls A X hl9 hK hZ hP hD hS hA => va_getsN X.1 X.2.1 (hz A s hZ).1 hS X.2.2.2.1 (va_Nw.use rfl (hz A s hZ).2) (fun _ h => h) dd (kk p e s m args below meth c H locs ls A X hl9 hK hZ hP hD hS hA)
/-- what a caller must know of a nest mate's method -/
def ev_kN (π : ev_P) (μ μ' : ev_M) (idx n : Nat) (host : String) (wx : List Cond) : Prop := GoodIn μ.2.2.2.2.1 μ'.2.2.2.2.1 ∧ (∃ ws', μ'.2.2.2.2.1 = Cond.code μ'.1 μ'.2.1 μ'.2.2.1 μ'.2.2.2.1 :: ws') ∧ Cond.initialized μ'.1.cls ∈ μ.2.2.2.2.1 ∧ (∀ w ∈ wx, w ∈ μ.2.2.2.2.1) ∧ (∀ (A : Nat → Prop) (s : State), π.2.2.2.2 A s s.heap → va_Nw (.methodLinkNest μ.1.cls idx μ'.1 host) s) ∧ (μ'.1.cls ≠ "java/lang/invoke/MethodHandle" ∧ μ'.1.cls ≠ "java/lang/invoke/VarHandle" ∧ (parseMethodDescriptor μ'.1.desc).map (fun d => d.parameters.length) = some n)
theorem ev_callSN {idx : Nat} {host : String} (pc : Nat) (As rest : List Value) (d : decode μ.2.1 pc = .ok (.invokestatic idx, 3)) (hZ : ev_Zok π.2.2.2.2) (hk : ev_kN π μ μ' idx As.length host [.static μ'.1]) (hR : ev_kR μ μ' mc ms cells slots) (hM : MT π μ' mc ms As ws Q')
    (kk : ∀ (r : Option Value) (w : va_W), Q' r w → EV π μ E (cells + mc) (slots + ms) (pc + 3) lv (r.toList ++ rest) w) (hst : st = As.reverse ++ rest := by rfl) (hrm : (rest.map fun v => v.category).sum ≤ 8 := by exact Nat.le_of_ble_eq_true rfl) : EV π μ E cells slots pc lv st ws := by
  obtain ⟨hG, ⟨ws', hw⟩, k1, k2, k3, hd⟩ := hk
  obtain ⟨r1, r2, r3, r4⟩ := hR
  intro p e s m args below meth c H locs ls A X hl hK hz hP hD hS hA
  have hfix : CallFix p m c μ.2.1 μ.2.2.1 s args μ.2.2.2.2.1 μ.1.cls := ⟨X.1, X.2.1, X.2.2.1, X.2.2.2.1, X.2.2.2.2.1⟩
  subst hst
  refine ev_run (va_runSN (As := As) (rest := rest) hfix (hM H.size) ⟨va_cnB As.length X.2.2.2.2.1 hG hw r1 r2 (k3 A s hz) (X.2.2.2.2.1 _ k1) hd r3, X.2.2.2.2.1 _ (k2 _ List.mem_cons_self), trivial⟩ ⟨ev_blind hZ _ _ _, fun U hU hW => ev_pre hZ As hK hz hP hD hS hA hU hW⟩ rfl rfl hl.1 rfl (lv_room hrm) d r4) hD hS hA ?_
  intro r w H1 locs1 hq hP1 hD1 hS1
  exact kk r w hq p e s m args below meth c H1 locs1 ls A X hl hK hz hP1 hD1 hS1 hA
theorem ev_callVN {idx b ci : Nat} {host : String} {fs : List Value} {T : u_T} {N : Nat} (pc q0 : Nat) (As rest : List Value) (d : decode μ.2.1 pc = .ok (.invokevirtual idx, 3)) (hZ : ev_Zok π.2.2.2.2) (hk : ev_kN π μ μ' idx As.length host [.instanceMethod μ'.1, .selects μ'.1.cls μ'.1 μ'.1]) (hR : ev_kR μ μ' mc ms cells slots) (he : ws[q0]? = some (b, .inr (ci, fs))) (hc : π.2.2.1[ci]? = some (μ'.1.cls, T, N)) (hM : MT π μ' mc ms (.ref b :: As) ws Q')
    (kk : ∀ (r : Option Value) (w : va_W), Q' r w → EV π μ E (cells + mc) (slots + ms) (pc + 3) lv (r.toList ++ rest) w) (hst : st = As.reverse ++ .ref b :: rest := by rfl) (hrm : (rest.map fun v => v.category).sum ≤ 8 := by exact Nat.le_of_ble_eq_true rfl) : EV π μ E cells slots pc lv st ws := by
  obtain ⟨hG, ⟨ws', hw⟩, k1, k2, k3, hd⟩ := hk
  obtain ⟨r1, r2, r3, r4⟩ := hR
  intro p e s m args below meth c H locs ls A X hl hK hz hP hD hS hA
  have hfix : CallFix p m c μ.2.1 μ.2.2.1 s args μ.2.2.2.2.1 μ.1.cls := ⟨X.1, X.2.1, X.2.2.1, X.2.2.2.1, X.2.2.2.2.1⟩
  subst hst
  refine ev_run (va_runVN (As := As) (rest := rest) (b := b) hfix (hM H.size) ⟨va_cnB As.length X.2.2.2.2.1 hG hw r1 r2 (k3 A s hz) (X.2.2.2.2.1 _ k1) hd r3, X.2.2.2.2.1 _ (k2 _ List.mem_cons_self), X.2.2.2.2.1 _ (k2 _ (List.mem_cons_of_mem _ List.mem_cons_self))⟩ ⟨ev_blind hZ _ _ _, ev_recv hK hP he hc, fun U hU hW => ev_pre hZ (.ref b :: As) hK hz hP hD hS hA hU hW⟩ rfl rfl hl.1 rfl (lv_room hrm) d r4) hD hS hA ?_
  intro r w H1 locs1 hq hP1 hD1 hS1
  exact kk r w hq p e s m args below meth c H1 locs1 ls A X hl hK hz hP1 hD1 hS1 hA
theorem ev_callIN {idx b : Nat} {host : String} (pc : Nat) (As rest : List Value) (d : decode μ.2.1 pc = .ok (.invokespecial idx, 3)) (hZ : ev_Zok π.2.2.2.2) (hk : ev_kN π μ μ' idx As.length host [.instanceMethod μ'.1]) (hnm : μ'.1.name = "<init>") (hrt : μ'.2.2.2.1 = none) (hR : ev_kR μ μ' mc ms cells slots) (hM : MT π μ' mc ms (.ref b :: As) ws Q')
    (kk : ∀ (r : Option Value) (w : va_W), Q' r w → EV π μ E (cells + mc) (slots + ms) (pc + 3) lv (r.toList ++ rest) w) (hst : st = As.reverse ++ .ref b :: rest := by rfl) (hrm : (rest.map fun v => v.category).sum ≤ 8 := by exact Nat.le_of_ble_eq_true rfl) : EV π μ E cells slots pc lv st ws := by
  obtain ⟨hG, ⟨ws', hw⟩, k1, k2, k3, hd⟩ := hk
  obtain ⟨r1, r2, r3, r4⟩ := hR
  rw [hrt] at hw
  intro p e s m args below meth c H locs ls A X hl hK hz hP hD hS hA
  have hfix : CallFix p m c μ.2.1 μ.2.2.1 s args μ.2.2.2.2.1 μ.1.cls := ⟨X.1, X.2.1, X.2.2.1, X.2.2.2.1, X.2.2.2.2.1⟩
  subst hst
  refine ev_run (va_runIN (As := As) (rest := rest) (b := b) hfix (hM H.size) ⟨va_cnB As.length X.2.2.2.2.1 hG hw r1 r2 (k3 A s hz) (X.2.2.2.2.1 _ k1) hd r3, hnm, X.2.2.2.2.1 _ (k2 _ List.mem_cons_self)⟩ ⟨ev_blind hZ _ _ _, fun U hU hW => ev_pre hZ (.ref b :: As) hK hz hP hD hS hA hU hW⟩ rfl rfl hl.1 rfl (lv_room hrm) d r4) hD hS hA ?_
  intro r w H1 locs1 hq hP1 hD1 hS1
  exact kk r w hq p e s m args below meth c H1 locs1 ls A X hl hK hz hP1 hD1 hS1 hA
end EVf
