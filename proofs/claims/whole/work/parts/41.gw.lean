/-! the class's world: cells by keys. 0 the object; 1 types, 2 draft, 3 instances, 4 functions; 5 6 7 the stack's rows; 8 living, 9 destroyed; 10 items with 11 places, 12 numbers, 13 counts; 14 the trap; 15 a reader, 16 a writer; 100 + 3 t type t with its parts and offsets behind it; 200 + 20 i instance i, its memory, its handles' array, its 16 handles; 400 + f function f.
K: the keys that live; am: addresses; N: lengths of arrays; G: fields; A: arrays of ints; Q: arrays of references; L: arrays of longs -/
def gk (k : Nat) : Nat := if k < 100 then (match k with | 0 => 0 | 1 => 21 | 2 => 21 | 3 => 22 | 4 => 23 | 10 => 6 | 12 => 25 | 14 => 3 | 15 => 7 | 16 => 8 | _ => 20)
  else if k < 200 then (match (k - 100) % 3 with | 0 => 1 | 1 => 21 | _ => 20)
  else if k < 400 then (match (k - 200) % 20 with | 0 => 5 | 1 => 20 | 2 => 24 | _ => 4) else 2
def gnf (c : Nat) : Nat := match c with | 0 => 18 | 1 => 9 | 2 => 3 | 3 => 2 | 4 => 5 | 5 => 4 | 6 => 4 | 7 => 4 | _ => 5
def gob (c : Nat) (g : Nat → Value) : va_E := .inr (c, (List.range (gnf c)).map g)
def gia (ks : Nat → ClassId) (n : Nat) (f : Nat → Int32) : va_E := .inl (ks 0, n, .inl f)
def gqa (ks : Nat → ClassId) (c n : Nat) (f : Nat → Option Nat) : va_E := .inl (ks (c - 18), n, .inr (.inr (.inr (.inr f))))
def gla (ks : Nat → ClassId) (n : Nat) (f : Nat → Int64) : va_E := .inl (ks 2, n, .inr (.inl f))
/-- state of the world: fields, ints, references, longs -/
abbrev gS : Type := (Nat → Nat → Value) × (Nat → Nat → Int32) × (Nat → Nat → Option Nat) × (Nat → Nat → Int64)
def gce (ks : Nat → ClassId) (N : Nat → Nat) (S : gS) (k : Nat) : va_E := if gk k < 20 then gob (gk k) (S.1 k) else if gk k = 20 then gia ks (N k) (S.2.1 k) else if gk k = 25 then gla ks (N k) (S.2.2.2 k) else gqa ks (gk k) (N k) (S.2.2.1 k)
def gw (K : List Nat) (am : Nat → Nat) (ks : Nat → ClassId) (N : Nat → Nat) (S : gS) : va_W := K.map (fun k => (am k, gce ks N S k))
def up2 {α : Type} (G : Nat → Nat → α) (k j : Nat) (v : α) : Nat → Nat → α := va_up G k (va_up (G k) j v)
def gsG (S : gS) (k j : Nat) (v : Value) : gS := (up2 S.1 k j v, S.2)
def gsA (S : gS) (k j : Nat) (v : Int32) : gS := (S.1, up2 S.2.1 k j v, S.2.2)
def gsQ (S : gS) (k j : Nat) (v : Option Nat) : gS := (S.1, S.2.1, up2 S.2.2.1 k j v, S.2.2.2)
def gsL (S : gS) (k j : Nat) (v : Int64) : gS := (S.1, S.2.1, S.2.2.1, up2 S.2.2.2 k j v)
theorem up2_ne {α : Type} (G : Nat → Nat → α) {k j k' : Nat} (v : α) (h : k' ≠ k) : up2 G k j v k' = G k' := va_up_ne G _ h
theorem up2_self {α : Type} (G : Nat → Nat → α) (k j : Nat) (v : α) : up2 G k j v k = va_up (G k) j v := va_up_self G _ _
theorem up2_eq {α : Type} (G : Nat → Nat → α) (k j : Nat) (v : α) : up2 G k j v k j = v := by rw [up2_self, va_up_self]
theorem up2_nj {α : Type} (G : Nat → Nat → α) {k j k' j' : Nat} (v : α) (h : k' ≠ k ∨ j' ≠ j) : up2 G k j v k' j' = G k' j' := by
  by_cases e : k' = k
  · subst e; rw [up2_self, va_up_ne _ _ (by omega)]
  · rw [up2_ne G v e]
theorem gw_at {K : List Nat} {am : Nat → Nat} {ks : Nat → ClassId} {N : Nat → Nat} {S : gS} {k : Nat} (hk : k ∈ K) : (gw K am ks N S)[K.idxOf k]? = some (am k, gce ks N S k) := by
  rw [gw, List.getElem?_map, List.getElem?_eq_getElem (List.idxOf_lt_length_of_mem hk), List.getElem_idxOf]
  rfl
theorem gw_ix {K : List Nat} {k : Nat} (hk : k ∈ K) : K[K.idxOf k]? = some k := by
  rw [List.getElem?_eq_getElem (List.idxOf_lt_length_of_mem hk), List.getElem_idxOf]
theorem gw_set {K : List Nat} {am : Nat → Nat} {ks : Nat → ClassId} {N : Nat → Nat} {S S' : gS} {k : Nat} (hN : va_nd K = true) (hk : k ∈ K) (h : ∀ j, j ≠ k → gce ks N S' j = gce ks N S j) : (gw K am ks N S).set (K.idxOf k) (am k, gce ks N S' k) = gw K am ks N S' :=
  mo_setL K (K.idxOf k) k (fun k => (am k, gce ks N S k)) (fun k => (am k, gce ks N S' k)) hN (gw_ix hk) (fun j hj => by show (am j, gce ks N S' j) = (am j, gce ks N S j); rw [h j hj])
theorem gce_o {ks : Nat → ClassId} {N : Nat → Nat} {S : gS} {k c : Nat} (h : gk k = c) (hc : c < 20) : gce ks N S k = gob c (S.1 k) := by
  rw [gce, h, if_pos hc]
theorem gce_i {ks : Nat → ClassId} {N : Nat → Nat} {S : gS} {k : Nat} (h : gk k = 20) : gce ks N S k = gia ks (N k) (S.2.1 k) := by
  rw [gce, h, if_neg (by decide), if_pos rfl]
theorem gce_l {ks : Nat → ClassId} {N : Nat → Nat} {S : gS} {k : Nat} (h : gk k = 25) : gce ks N S k = gla ks (N k) (S.2.2.2 k) := by
  rw [gce, h, if_neg (by decide), if_neg (by decide), if_pos rfl]
theorem gce_q {ks : Nat → ClassId} {N : Nat → Nat} {S : gS} {k c : Nat} (h : gk k = c) (h1 : 20 < c) (h2 : c < 25) : gce ks N S k = gqa ks c (N k) (S.2.2.1 k) := by
  rw [gce, h, if_neg (by omega), if_neg (by omega), if_neg (by omega)]
theorem gob_get {c j : Nat} {g : Nat → Value} (h : j < gnf c) : ((List.range (gnf c)).map g)[j]? = some (g j) := by
  simp [h]
theorem gob_set {c j : Nat} {g : Nat → Value} {v : Value} : ((List.range (gnf c)).map g).set j v = (List.range (gnf c)).map (va_up g j v) := by
  apply List.ext_getElem?
  intro i
  by_cases hi : i < gnf c
  · by_cases e : j = i
    · subst e
      rw [List.getElem?_set_self (by simpa using hi), gob_get hi, va_up_self]
    · rw [List.getElem?_set_ne e, gob_get hi, gob_get hi, va_up_ne _ _ (fun z => e z.symm)]
  · rw [List.getElem?_eq_none (by simpa using hi), List.getElem?_eq_none (by simpa using hi)]
abbrev hc_π (l : Launch) (D : va_G) (ks : Nat → ClassId) (tl : List (ClassId × FieldType)) (Z : (Nat → Prop) → State → Heap → Prop) : ev_P := mo_π l D cl_A (ks 0) (ks 1) ((ks 2, .long) :: (ks 3, .object R_ty) :: (ks 4, .object R_in) :: (ks 5, .object R_fu) :: (ks 6, .object R_ha) :: tl) Z
def gq_C (c : Nat) : vw_C := match c with | 21 => (R_ty, T_ty, 9) | 22 => (R_in, T_in, 4) | 23 => (R_fu, T_fu, 3) | _ => (R_ha, T_ha, 5)
theorem gq_ty {l : Launch} {D : va_G} {ks : Nat → ClassId} {tl : List (ClassId × FieldType)} {Z : (Nat → Prop) → State → Heap → Prop} {c : Nat} (h1 : 20 < c) (h2 : c < 25) : (hc_π l D ks tl Z).2.2.2.1[c - 18]? = some (ks (c - 18), .object (gq_C c).1) := by
  obtain rfl | rfl | rfl | rfl : c = 21 ∨ c = 22 ∨ c = 23 ∨ c = 24 := by omega
  · rfl
  · rfl
  · rfl
  · rfl
section GW
variable {l : Launch} {D : va_G} {tl : List (ClassId × FieldType)} {Z : (Nat → Prop) → State → Heap → Prop} {K : List Nat} {am : Nat → Nat} {ks : Nat → ClassId} {N : Nat → Nat} {S : gS} {μ : ev_M} {E : ev_T} {cells slots : Nat} {lv : List (Option Value)} {st : List Value}
theorem gw_get {idx c : Nat} (pc k j : Nat) (d : decode μ.2.1 pc = .ok (.getfield idx, 3)) (hF : ev_F cl_A μ.2.2.2.2.1 μ.1.cls idx c j) (hk : k ∈ K) (hg : gk k = c) (v : Value) (hv : S.1 k j = v)
    (kk : EV (hc_π l D ks tl Z) μ E cells slots (pc + 3) lv (v :: st) (gw K am ks N S)) (hc : c < 20 := by decide) (hj : j < gnf c := by decide) : EV (hc_π l D ks tl Z) μ E cells slots pc lv (.ref (am k) :: st) (gw K am ks N S) :=
  ev_get (fs := (List.range (gnf c)).map (S.1 k)) pc (K.idxOf k) j d hF (by rw [gw_at hk, gce_o hg hc]; rfl) (by rw [gob_get hj, hv]) kk
theorem gw_put {idx c : Nat} {v : Value} {ty : FieldType} (pc k j : Nat) (d : decode μ.2.1 pc = .ok (.putfield idx, 3)) (hF : ev_FP cl_A μ.2.2.2.2.1 μ.1.cls idx c j ty) (hN : va_nd K = true) (hk : k ∈ K) (hg : gk k = c) (hn : narrow ty v = v) (hfit : fits ty v = true)
    (kk : EV (hc_π l D ks tl Z) μ E cells slots (pc + 3) lv st (gw K am ks N (gsG S k j v))) (hc : c < 20 := by decide) (hj : j < gnf c := by decide) : EV (hc_π l D ks tl Z) μ E cells slots pc lv (v :: .ref (am k) :: st) (gw K am ks N S) := by
  refine ev_put (fs := (List.range (gnf c)).map (S.1 k)) pc (K.idxOf k) j d hF (by rw [gw_at hk, gce_o hg hc]; rfl) (by simpa using hj) hn hfit ?_
  have h := gw_set (am := am) (ks := ks) (N := N) (S := S) (S' := gsG S k j v) hN hk (fun i hi => by unfold gce gsG; dsimp only; rw [up2_ne _ _ hi])
  rw [← h, gce_o hg hc] at kk
  rw [gob_set]
  have e : gob c ((gsG S k j v).1 k) = .inr (c, (List.range (gnf c)).map (va_up (S.1 k) j v)) := by
    show gob c (up2 S.1 k j v k) = _
    rw [up2_self] <;> rfl
  rw [e] at kk
  exact kk
theorem gw_putF {idx c : Nat} {v : Value} {ty : FieldType} (pc k j : Nat) (d : decode μ.2.1 pc = .ok (.putfield idx, 3)) (hF : ev_FF cl_A μ.2.2.2.2.1 μ.1.cls idx c j ty) (hnm : μ.1.name = "<init>") (hN : va_nd K = true) (hk : k ∈ K) (hg : gk k = c) (hn : narrow ty v = v) (hfit : fits ty v = true)
    (kk : EV (hc_π l D ks tl Z) μ E cells slots (pc + 3) lv st (gw K am ks N (gsG S k j v))) (hc : c < 20 := by decide) (hj : j < gnf c := by decide) : EV (hc_π l D ks tl Z) μ E cells slots pc lv (v :: .ref (am k) :: st) (gw K am ks N S) := by
  refine ev_putF (fs := (List.range (gnf c)).map (S.1 k)) pc (K.idxOf k) j d hF hnm (by rw [gw_at hk, gce_o hg hc]; rfl) (by simpa using hj) hn hfit ?_
  have h := gw_set (am := am) (ks := ks) (N := N) (S := S) (S' := gsG S k j v) hN hk (fun i hi => by unfold gce gsG; dsimp only; rw [up2_ne _ _ hi])
  rw [← h, gce_o hg hc] at kk
  rw [gob_set]
  have e : gob c ((gsG S k j v).1 k) = .inr (c, (List.range (gnf c)).map (va_up (S.1 k) j v)) := by
    show gob c (up2 S.1 k j v k) = _
    rw [up2_self] <;> rfl
  rw [e] at kk
  exact kk
theorem gw_ild {j : Nat} (pc k : Nat) (d : decode μ.2.1 pc = .ok (.iaload, 1)) (hk : k ∈ K) (hg : gk k = 20) (hj : j < N k) (hN : N k < 2 ^ 31) (x : Int32) (hx : S.2.1 k j = x)
    (kk : EV (hc_π l D ks tl Z) μ E cells slots (pc + 1) lv (.int x :: st) (gw K am ks N S)) : EV (hc_π l D ks tl Z) μ E cells slots pc lv (.int (nI j) :: .ref (am k) :: st) (gw K am ks N S) := by
  refine ev_iald (cA := ks 0) (n := N k) (f := S.2.1 k) pc (K.idxOf k) 0 d (by rw [gw_at hk, gce_i hg]; rfl) rfl (vp_in_nI hj hN) ?_
  rw [nI_clamp (Nat.lt_trans hj hN), hx]
  exact kk
theorem gw_lld {j : Nat} (pc k : Nat) (d : decode μ.2.1 pc = .ok (.laload, 1)) (hk : k ∈ K) (hg : gk k = 25) (hj : j < N k) (hN : N k < 2 ^ 31) (x : Int64) (hx : S.2.2.2 k j = x)
    (kk : EV (hc_π l D ks tl Z) μ E cells slots (pc + 1) lv (.long x :: st) (gw K am ks N S)) : EV (hc_π l D ks tl Z) μ E cells slots pc lv (.int (nI j) :: .ref (am k) :: st) (gw K am ks N S) := by
  refine ev_lald (cA := ks 2) (n := N k) (f := S.2.2.2 k) pc (K.idxOf k) 2 d (by rw [gw_at hk, gce_l hg]; rfl) rfl (vp_in_nI hj hN) ?_
  rw [nI_clamp (Nat.lt_trans hj hN), hx]
  exact kk
theorem gw_qld {j c : Nat} (pc k : Nat) (d : decode μ.2.1 pc = .ok (.aaload, 1)) (hk : k ∈ K) (hg : gk k = c) (hj : j < N k) (hN : N k < 2 ^ 31) (x : Option Nat) (hx : S.2.2.1 k j = x)
    (kk : EV (hc_π l D ks tl Z) μ E cells slots (pc + 1) lv (va_rf x :: st) (gw K am ks N S)) (h1 : 20 < c := by decide) (h2 : c < 25 := by decide) : EV (hc_π l D ks tl Z) μ E cells slots pc lv (.int (nI j) :: .ref (am k) :: st) (gw K am ks N S) := by
  refine ev_aald (cA := ks (c - 18)) (C := (gq_C c).1) (n := N k) (f := S.2.2.1 k) pc (K.idxOf k) (c - 18) d (by rw [gw_at hk, gce_q hg h1 h2]; rfl) (gq_ty h1 h2) (vp_in_nI hj hN) ?_
  rw [nI_clamp (Nat.lt_trans hj hN), hx]
  exact kk
theorem gw_ist {j : Nat} {x : Int32} (pc k : Nat) (d : decode μ.2.1 pc = .ok (.iastore, 1)) (hd : va_nd K = true) (hk : k ∈ K) (hg : gk k = 20) (hj : j < N k) (hN : N k < 2 ^ 31)
    (kk : EV (hc_π l D ks tl Z) μ E cells slots (pc + 1) lv st (gw K am ks N (gsA S k j x))) : EV (hc_π l D ks tl Z) μ E cells slots pc lv (.int x :: .int (nI j) :: .ref (am k) :: st) (gw K am ks N S) := by
  refine ev_iast (cA := ks 0) (n := N k) (f := S.2.1 k) pc (K.idxOf k) 0 d (by rw [gw_at hk, gce_i hg]; rfl) rfl (vp_in_nI hj hN) ?_
  have h := gw_set (am := am) (ks := ks) (N := N) (S := S) (S' := gsA S k j x) hd hk (fun i hi => by unfold gce gsA; dsimp only; rw [up2_ne _ _ hi])
  rw [← h, gce_i hg] at kk
  have e : gia ks (N k) ((gsA S k j x).2.1 k) = .inl (ks 0, N k, .inl (upd (S.2.1 k) (nI j).toNatClampNeg x)) := by
    show gia ks (N k) (up2 S.2.1 k j x k) = _
    rw [up2_self, nI_clamp (Nat.lt_trans hj hN)] <;> rfl
  rw [e] at kk
  exact kk
theorem gw_lst {j : Nat} {x : Int64} (pc k : Nat) (d : decode μ.2.1 pc = .ok (.lastore, 1)) (hd : va_nd K = true) (hk : k ∈ K) (hg : gk k = 25) (hj : j < N k) (hN : N k < 2 ^ 31)
    (kk : EV (hc_π l D ks tl Z) μ E cells slots (pc + 1) lv st (gw K am ks N (gsL S k j x))) : EV (hc_π l D ks tl Z) μ E cells slots pc lv (.long x :: .int (nI j) :: .ref (am k) :: st) (gw K am ks N S) := by
  refine ev_last (cA := ks 2) (n := N k) (f := S.2.2.2 k) pc (K.idxOf k) 2 d (by rw [gw_at hk, gce_l hg]; rfl) rfl (vp_in_nI hj hN) ?_
  have h := gw_set (am := am) (ks := ks) (N := N) (S := S) (S' := gsL S k j x) hd hk (fun i hi => by unfold gce gsL; dsimp only; rw [up2_ne _ _ hi])
  rw [← h, gce_l hg] at kk
  have e : gla ks (N k) ((gsL S k j x).2.2.2 k) = .inl (ks 2, N k, .inr (.inl (vp_updL (S.2.2.2 k) (nI j).toNatClampNeg x))) := by
    show gla ks (N k) (up2 S.2.2.2 k j x k) = _
    rw [up2_self, nI_clamp (Nat.lt_trans hj hN)] <;> rfl
  rw [e] at kk
  exact kk
theorem gw_qst {j c o : Nat} (pc k : Nat) (d : decode μ.2.1 pc = .ok (.aastore, 1)) (hd : va_nd K = true) (hk : k ∈ K) (hg : gk k = c) (hj : j < N k) (hN : N k < 2 ^ 31) (ho : o ∈ K) (co : Nat) (hgo : gk o = co) (hco : co < 20) (hcl : cl_A[co]? = some (gq_C c))
    (kk : EV (hc_π l D ks tl Z) μ E cells slots (pc + 1) lv st (gw K am ks N (gsQ S k j (some (am o))))) (h1 : 20 < c := by decide) (h2 : c < 25 := by decide) : EV (hc_π l D ks tl Z) μ E cells slots pc lv (.ref (am o) :: .int (nI j) :: .ref (am k) :: st) (gw K am ks N S) := by
  refine ev_aast (cA := ks (c - 18)) (r := gq_C c) (n := N k) (f := S.2.2.1 k) (qk := K.idxOf o) (ci := co) (vs := (List.range (gnf co)).map (S.1 o)) pc (K.idxOf k) (c - 18) d (by rw [gw_at hk, gce_q hg h1 h2]; rfl) (gq_ty h1 h2) (by rw [gw_at ho, gce_o hgo hco]; rfl) hcl (vp_in_nI hj hN) ?_
  have h := gw_set (am := am) (ks := ks) (N := N) (S := S) (S' := gsQ S k j (some (am o))) hd hk (fun i hi => by unfold gce gsQ; dsimp only; rw [up2_ne _ _ hi])
  rw [← h, gce_q hg h1 h2] at kk
  have e : gqa ks c (N k) ((gsQ S k j (some (am o))).2.2.1 k) = .inl (ks (c - 18), N k, .inr (.inr (.inr (.inr (va_up (S.2.2.1 k) (nI j).toNatClampNeg (some (am o))))))) := by
    show gqa ks c (N k) (up2 S.2.2.1 k j (some (am o)) k) = _
    rw [up2_self, nI_clamp (Nat.lt_trans hj hN)] <;> rfl
  rw [e] at kk
  exact kk
end GW
