/-! the reference's world: one object with 60 fields (18 of them numbers), 42 arrays of ints or booleans. F k: the number in field k; B k: the array that field k holds; am k: its address, am 60 the object's -/
def mo_R : List Nat := [2, 3, 4, 5, 6, 7, 8, 9, 11, 13, 14, 15, 16, 17, 18, 19, 20, 21, 23, 24, 26, 27, 28, 30, 31, 32, 37, 38, 39, 40, 41, 42, 44, 45, 46, 47, 48, 49, 50, 51, 53, 59]
def mo_Zs : List Nat := [16, 18, 20, 24]
def mo_len (k : Nat) : Nat := match k with
  | 8 => 192 | 9 => 192 | 11 => 6 | 14 => 6 | 15 => 6 | 30 => 6 | 31 => 6 | 32 => 6 | 59 => 6 | 13 => 1536
  | 16 => 102 | 17 => 102 | 18 => 102 | 19 => 102 | 20 => 102 | 21 => 102 | 23 => 1024 | 24 => 1024 | 26 => 12 | 27 => 12 | 28 => 12
  | 37 => 64 | 38 => 64 | 39 => 64 | 40 => 64 | 41 => 64 | 42 => 64
  | 44 => 200 | 45 => 200 | 46 => 200 | 47 => 200 | 48 => 200 | 49 => 200 | 50 => 200 | 51 => 200 | 53 => 16 | _ => 32
def mo_fv (am : Nat → Nat) (F : Nat → Int32) (k : Nat) : Value := if mo_R.contains k then .ref (am k) else .int (F k)
def mo_fs (am : Nat → Nat) (F : Nat → Int32) : List Value := (List.range 60).map (mo_fv am F)
def mo_arr (kI kZ : ClassId) (B : Nat → Nat → Int32) (k : Nat) : va_E := .inl (if mo_Zs.contains k then kZ else kI, mo_len k, .inl (B k))
def mo_W (ci : Nat) (am : Nat → Nat) (kI kZ : ClassId) (F : Nat → Int32) (B : Nat → Nat → Int32) : va_W := (am 60, .inr (ci, mo_fs am F)) :: mo_R.map (fun k => (am k, mo_arr kI kZ B k))
abbrev mo_π (l : Launch) (D : va_G) (cl : List vw_C) (kI kZ : ClassId) (tl : List (ClassId × FieldType)) (Z : (Nat → Prop) → State → Heap → Prop) : ev_P := (l, D, cl, (kI, .int) :: (kZ, .boolean) :: tl, Z)
def mo_isI (k : Nat) : Bool := decide (k < 60) && !mo_R.contains k
theorem mo_fs_len (am : Nat → Nat) (F : Nat → Int32) : (mo_fs am F).length = 60 := by simp [mo_fs]
theorem mo_fs_get (am : Nat → Nat) (F : Nat → Int32) {k : Nat} (h : k < 60) : (mo_fs am F)[k]? = some (mo_fv am F k) := by
  simp [mo_fs, h]
theorem mo_fs_i {am : Nat → Nat} {F : Nat → Int32} {k : Nat} (h : mo_isI k = true) : (mo_fs am F)[k]? = some (.int (F k)) := by
  simp only [mo_isI, Bool.and_eq_true, decide_eq_true_eq, Bool.not_eq_true'] at h
  rw [mo_fs_get am F h.1, mo_fv, h.2]
  rfl
theorem mo_lt_of {n k : Nat} (h : mo_R[n]? = some k) : k < 60 := by
  have h1 : ∀ x ∈ mo_R, x < 60 := by decide
  exact h1 k (List.mem_of_getElem? h)
theorem mo_fs_r {am : Nat → Nat} {F : Nat → Int32} {n k : Nat} (h : mo_R[n]? = some k) : (mo_fs am F)[k]? = some (.ref (am k)) := by
  have h2 : mo_R.contains k = true := List.contains_iff_mem.mpr (List.mem_of_getElem? h)
  rw [mo_fs_get am F (mo_lt_of h), mo_fv, h2]
  rfl
theorem mo_fs_set {am : Nat → Nat} {F : Nat → Int32} {k : Nat} {x : Int32} (h : mo_isI k = true) : (mo_fs am F).set k (.int x) = mo_fs am (upd F k x) := by
  simp only [mo_isI, Bool.and_eq_true, decide_eq_true_eq, Bool.not_eq_true'] at h
  apply List.ext_getElem?
  intro j
  by_cases e : k = j
  · subst e
    rw [List.getElem?_set_self (by rw [mo_fs_len]; exact h.1), mo_fs_get _ _ h.1, mo_fv, h.2, upd]
    simp
  · rw [List.getElem?_set_ne e]
    by_cases hj : j < 60
    · have e2 : upd F k x j = F j := if_neg (fun z => e z.symm)
      rw [mo_fs_get _ _ hj, mo_fs_get _ _ hj, mo_fv, mo_fv, e2]
    · rw [List.getElem?_eq_none (by rw [mo_fs_len]; omega), List.getElem?_eq_none (by rw [mo_fs_len]; omega)]
theorem mo_setL : ∀ (R : List Nat) (n k : Nat) (f g : Nat → Nat × va_E), va_nd R = true → R[n]? = some k → (∀ j, j ≠ k → g j = f j) → (R.map f).set n (g k) = R.map g := by
  intro R
  induction R with
  | nil => intro n k f g _ h; simp at h
  | cons a R ih =>
    intro n k f g hn h hg
    simp only [va_nd, Bool.and_eq_true, decide_eq_true_eq] at hn
    cases n with
    | zero =>
      simp only [List.getElem?_cons_zero, Option.some.injEq] at h
      subst h
      rw [List.map_cons, List.set_cons_zero, List.map_cons]
      congr 1
      refine List.map_congr_left fun j hj => (hg j ?_).symm
      rintro rfl
      exact hn.1 hj
    | succ n =>
      rw [List.getElem?_cons_succ] at h
      rw [List.map_cons, List.set_cons_succ, List.map_cons, ih n k f g hn.2 h hg, hg a]
      rintro rfl
      exact hn.1 (List.mem_of_getElem? h)
theorem mo_R_nd : va_nd mo_R = true := by decide
theorem mo_W_at {ci : Nat} {am : Nat → Nat} {kI kZ : ClassId} {F : Nat → Int32} {B : Nat → Nat → Int32} {n k : Nat} (h : mo_R[n]? = some k) : (mo_W ci am kI kZ F B)[n + 1]? = some (am k, mo_arr kI kZ B k) := by
  rw [mo_W, List.getElem?_cons_succ, List.getElem?_map, h]
  rfl
theorem mo_W_set {ci : Nat} {am : Nat → Nat} {kI kZ : ClassId} {F : Nat → Int32} {B : Nat → Nat → Int32} {n k : Nat} {g : Nat → Int32} (h : mo_R[n]? = some k) : (mo_W ci am kI kZ F B).set (n + 1) (am k, .inl (if mo_Zs.contains k then kZ else kI, mo_len k, .inl g)) = mo_W ci am kI kZ F (va_up B k g) := by
  rw [mo_W, List.set_cons_succ, mo_W]
  congr 1
  have h1 := mo_setL mo_R n k (fun k => (am k, mo_arr kI kZ B k)) (fun j => (am j, mo_arr kI kZ (va_up B k g) j)) mo_R_nd h (fun j hj => by simp [mo_arr, va_up_ne B g hj])
  rw [← h1]
  simp [mo_arr, va_up_self]
section MO
variable {l : Launch} {D : va_G} {cl : List vw_C} {tl : List (ClassId × FieldType)} {Z : (Nat → Prop) → State → Heap → Prop} {ci : Nat} {kI kZ : ClassId} {am : Nat → Nat} {F : Nat → Int32} {B : Nat → Nat → Int32} {μ : ev_M} {E : ev_T} {cells slots : Nat} {lv : List (Option Value)} {st : List Value}
theorem mo_geti {idx : Nat} (pc k : Nat) (d : decode μ.2.1 pc = .ok (.getfield idx, 3)) (hF : ev_F cl μ.2.2.2.2.1 μ.1.cls idx ci k)
    (kk : EV (mo_π l D cl kI kZ tl Z) μ E cells slots (pc + 3) lv (.int (F k) :: st) (mo_W ci am kI kZ F B)) (hk : mo_isI k = true := by rfl) : EV (mo_π l D cl kI kZ tl Z) μ E cells slots pc lv (.ref (am 60) :: st) (mo_W ci am kI kZ F B) :=
  ev_get (fs := mo_fs am F) pc 0 k d hF rfl (mo_fs_i hk) kk
theorem mo_getr {idx : Nat} (pc n k : Nat) (d : decode μ.2.1 pc = .ok (.getfield idx, 3)) (hF : ev_F cl μ.2.2.2.2.1 μ.1.cls idx ci k)
    (kk : EV (mo_π l D cl kI kZ tl Z) μ E cells slots (pc + 3) lv (.ref (am k) :: st) (mo_W ci am kI kZ F B)) (hk : mo_R[n]? = some k := by rfl) : EV (mo_π l D cl kI kZ tl Z) μ E cells slots pc lv (.ref (am 60) :: st) (mo_W ci am kI kZ F B) :=
  ev_get (fs := mo_fs am F) pc 0 k d hF rfl (mo_fs_r hk) kk
theorem mo_puti {idx : Nat} {x : Int32} (pc k : Nat) (d : decode μ.2.1 pc = .ok (.putfield idx, 3)) (hF : ev_FP cl μ.2.2.2.2.1 μ.1.cls idx ci k .int)
    (kk : EV (mo_π l D cl kI kZ tl Z) μ E cells slots (pc + 3) lv st (mo_W ci am kI kZ (upd F k x) B)) (hk : mo_isI k = true := by rfl) : EV (mo_π l D cl kI kZ tl Z) μ E cells slots pc lv (.int x :: .ref (am 60) :: st) (mo_W ci am kI kZ F B) := by
  refine ev_put (fs := mo_fs am F) pc 0 k d hF rfl ?_ (vp_nar_int x) rfl ?_
  · rw [mo_fs_len]
    simp only [mo_isI, Bool.and_eq_true, decide_eq_true_eq] at hk
    exact hk.1
  · rw [mo_fs_set hk]
    exact kk
theorem mo_ald {i : Int32} (pc n k : Nat) (d : decode μ.2.1 pc = .ok (.iaload, 1)) (hin : vp_in i (mo_len k))
    (kk : EV (mo_π l D cl kI kZ tl Z) μ E cells slots (pc + 1) lv (.int (B k i.toNatClampNeg) :: st) (mo_W ci am kI kZ F B)) (hk : mo_R[n]? = some k := by rfl) (hz : mo_Zs.contains k = false := by rfl) : EV (mo_π l D cl kI kZ tl Z) μ E cells slots pc lv (.int i :: .ref (am k) :: st) (mo_W ci am kI kZ F B) := by
  refine ev_iald (cA := kI) (n := mo_len k) (f := B k) pc (n + 1) 0 d ?_ rfl hin kk
  rw [mo_W_at hk, mo_arr, hz]
  rfl
theorem mo_zld {i : Int32} (pc n k : Nat) (d : decode μ.2.1 pc = .ok (.baload, 1)) (hin : vp_in i (mo_len k))
    (kk : EV (mo_π l D cl kI kZ tl Z) μ E cells slots (pc + 1) lv (.int (B k i.toNatClampNeg) :: st) (mo_W ci am kI kZ F B)) (hk : mo_R[n]? = some k := by rfl) (hz : mo_Zs.contains k = true := by rfl) : EV (mo_π l D cl kI kZ tl Z) μ E cells slots pc lv (.int i :: .ref (am k) :: st) (mo_W ci am kI kZ F B) := by
  refine ev_zald (cA := kZ) (n := mo_len k) (f := B k) pc (n + 1) 1 d ?_ rfl hin kk
  rw [mo_W_at hk, mo_arr, hz]
  rfl
theorem mo_ast {i x : Int32} (pc n k : Nat) (d : decode μ.2.1 pc = .ok (.iastore, 1)) (hin : vp_in i (mo_len k))
    (kk : EV (mo_π l D cl kI kZ tl Z) μ E cells slots (pc + 1) lv st (mo_W ci am kI kZ F (va_up B k (upd (B k) i.toNatClampNeg x)))) (hk : mo_R[n]? = some k := by rfl) (hz : mo_Zs.contains k = false := by rfl) : EV (mo_π l D cl kI kZ tl Z) μ E cells slots pc lv (.int x :: .int i :: .ref (am k) :: st) (mo_W ci am kI kZ F B) := by
  refine ev_iast (cA := kI) (n := mo_len k) (f := B k) pc (n + 1) 0 d ?_ rfl hin ?_
  · rw [mo_W_at hk, mo_arr, hz]
    rfl
  · have h := mo_W_set (ci := ci) (am := am) (kI := kI) (kZ := kZ) (F := F) (B := B) (g := upd (B k) i.toNatClampNeg x) hk
    rw [hz] at h
    rw [← h] at kk
    exact kk
theorem mo_zst {i x : Int32} (pc n k : Nat) (d : decode μ.2.1 pc = .ok (.bastore, 1)) (hin : vp_in i (mo_len k))
    (kk : EV (mo_π l D cl kI kZ tl Z) μ E cells slots (pc + 1) lv st (mo_W ci am kI kZ F (va_up B k (upd (B k) i.toNatClampNeg (vp_nar .boolean x))))) (hk : mo_R[n]? = some k := by rfl) (hz : mo_Zs.contains k = true := by rfl) : EV (mo_π l D cl kI kZ tl Z) μ E cells slots pc lv (.int x :: .int i :: .ref (am k) :: st) (mo_W ci am kI kZ F B) := by
  refine ev_zast (cA := kZ) (n := mo_len k) (f := B k) pc (n + 1) 1 d ?_ rfl hin ?_
  · rw [mo_W_at hk, mo_arr, hz]
    rfl
  · have h := mo_W_set (ci := ci) (am := am) (kI := kI) (kZ := kZ) (F := F) (B := B) (g := upd (B k) i.toNatClampNeg (vp_nar .boolean x)) hk
    rw [hz] at h
    rw [← h] at kk
    exact kk
end MO
