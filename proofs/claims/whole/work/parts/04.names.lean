/-! names of the classes, their fields by places of our own order, and the list of the classes -/
def R_hc : String := "HostedCalls"
def T_hc : u_T := fun k => match k with
  | 0 => ("HostedCalls", "types", "[LHostedCalls$Type;", true)
  | 1 => ("HostedCalls", "typeCount", "I", false)
  | 2 => ("HostedCalls", "draft", "[LHostedCalls$Type;", true)
  | 3 => ("HostedCalls", "draftCount", "I", false)
  | 4 => ("HostedCalls", "instances", "[LHostedCalls$Instance;", true)
  | 5 => ("HostedCalls", "instanceCount", "I", false)
  | 6 => ("HostedCalls", "functions", "[LHostedCalls$Function;", true)
  | 7 => ("HostedCalls", "functionCount", "I", false)
  | 8 => ("HostedCalls", "stackInstances", "[I", true)
  | 9 => ("HostedCalls", "stackFunctions", "[I", true)
  | 10 => ("HostedCalls", "stackPlaces", "[I", true)
  | 11 => ("HostedCalls", "stackCount", "I", false)
  | 12 => ("HostedCalls", "resourcesMade", "I", false)
  | 13 => ("HostedCalls", "living", "[I", true)
  | 14 => ("HostedCalls", "destroyed", "[I", true)
  | 15 => ("HostedCalls", "items", "LHostedCalls$Items;", true)
  | 16 => ("HostedCalls", "latestTrap", "LHostedCalls$Trap;", true)
  | _ => ("HostedCalls", "latestPoisoned", "I", false)
def t_hc : Nat → FieldType := fun k => match k with
  | 0 => (.array (.object "HostedCalls$Type"))
  | 1 => .int
  | 2 => (.array (.object "HostedCalls$Type"))
  | 3 => .int
  | 4 => (.array (.object "HostedCalls$Instance"))
  | 5 => .int
  | 6 => (.array (.object "HostedCalls$Function"))
  | 7 => .int
  | 8 => (.array .int)
  | 9 => (.array .int)
  | 10 => (.array .int)
  | 11 => .int
  | 12 => .int
  | 13 => (.array .int)
  | 14 => (.array .int)
  | 15 => (.object "HostedCalls$Items")
  | 16 => (.object "HostedCalls$Trap")
  | _ => .int
theorem n_hc_ok : ∀ a, a < 18 → ∀ b, b < 18 → a ≠ b → (T_hc a).2.1 ≠ (T_hc b).2.1 := by decide +kernel
theorem t_hc_ok : ∀ k, k < 18 → parseFieldDescriptor (T_hc k).2.2.1 = some (t_hc k) := by decide +kernel
def R_ty : String := "HostedCalls$Type"
def T_ty : u_T := fun k => match k with
  | 0 => ("HostedCalls$Type", "kind", "I", true)
  | 1 => ("HostedCalls$Type", "n", "I", true)
  | 2 => ("HostedCalls$Type", "partCount", "I", true)
  | 3 => ("HostedCalls$Type", "parts", "[LHostedCalls$Type;", true)
  | 4 => ("HostedCalls$Type", "offsets", "[I", true)
  | 5 => ("HostedCalls$Type", "depth", "I", true)
  | 6 => ("HostedCalls$Type", "hasBorrow", "Z", true)
  | 7 => ("HostedCalls$Type", "alignment", "I", true)
  | _ => ("HostedCalls$Type", "size", "I", true)
def t_ty : Nat → FieldType := fun k => match k with
  | 0 => .int
  | 1 => .int
  | 2 => .int
  | 3 => (.array (.object "HostedCalls$Type"))
  | 4 => (.array .int)
  | 5 => .int
  | 6 => .boolean
  | 7 => .int
  | _ => .int
theorem n_ty_ok : ∀ a, a < 9 → ∀ b, b < 9 → a ≠ b → (T_ty a).2.1 ≠ (T_ty b).2.1 := by decide +kernel
theorem t_ty_ok : ∀ k, k < 9 → parseFieldDescriptor (T_ty k).2.2.1 = some (t_ty k) := by decide +kernel
def R_fu : String := "HostedCalls$Function"
def T_fu : u_T := fun k => match k with
  | 0 => ("HostedCalls$Function", "owner", "I", true)
  | 1 => ("HostedCalls$Function", "argument", "LHostedCalls$Type;", true)
  | _ => ("HostedCalls$Function", "result", "LHostedCalls$Type;", true)
def t_fu : Nat → FieldType := fun k => match k with
  | 0 => .int
  | 1 => (.object "HostedCalls$Type")
  | _ => (.object "HostedCalls$Type")
theorem n_fu_ok : ∀ a, a < 3 → ∀ b, b < 3 → a ≠ b → (T_fu a).2.1 ≠ (T_fu b).2.1 := by decide +kernel
theorem t_fu_ok : ∀ k, k < 3 → parseFieldDescriptor (T_fu k).2.2.1 = some (t_fu k) := by decide +kernel
def R_tr : String := "HostedCalls$Trap"
def T_tr : u_T := fun k => match k with
  | 0 => ("HostedCalls$Trap", "code", "I", false)
  | _ => ("HostedCalls$Trap", "place", "I", false)
def t_tr : Nat → FieldType := fun k => match k with
  | 0 => .int
  | _ => .int
theorem n_tr_ok : ∀ a, a < 2 → ∀ b, b < 2 → a ≠ b → (T_tr a).2.1 ≠ (T_tr b).2.1 := by decide +kernel
theorem t_tr_ok : ∀ k, k < 2 → parseFieldDescriptor (T_tr k).2.2.1 = some (t_tr k) := by decide +kernel
def R_ha : String := "HostedCalls$Handle"
def T_ha : u_T := fun k => match k with
  | 0 => ("HostedCalls$Handle", "resource", "I", false)
  | 1 => ("HostedCalls$Handle", "kind", "I", false)
  | 2 => ("HostedCalls$Handle", "loans", "I", false)
  | 3 => ("HostedCalls$Handle", "holding", "LHostedCalls$Holding;", false)
  | _ => ("HostedCalls$Handle", "lender", "LHostedCalls$Handle;", false)
def t_ha : Nat → FieldType := fun k => match k with
  | 0 => .int
  | 1 => .int
  | 2 => .int
  | 3 => (.object "HostedCalls$Holding")
  | _ => (.object "HostedCalls$Handle")
theorem n_ha_ok : ∀ a, a < 5 → ∀ b, b < 5 → a ≠ b → (T_ha a).2.1 ≠ (T_ha b).2.1 := by decide +kernel
theorem t_ha_ok : ∀ k, k < 5 → parseFieldDescriptor (T_ha k).2.2.1 = some (t_ha k) := by decide +kernel
def R_in : String := "HostedCalls$Instance"
def T_in : u_T := fun k => match k with
  | 0 => ("HostedCalls$Instance", "memory", "[I", true)
  | 1 => ("HostedCalls$Instance", "handles", "[LHostedCalls$Handle;", true)
  | 2 => ("HostedCalls$Instance", "heap", "I", false)
  | _ => ("HostedCalls$Instance", "condition", "I", false)
def t_in : Nat → FieldType := fun k => match k with
  | 0 => (.array .int)
  | 1 => (.array (.object "HostedCalls$Handle"))
  | 2 => .int
  | _ => .int
theorem n_in_ok : ∀ a, a < 4 → ∀ b, b < 4 → a ≠ b → (T_in a).2.1 ≠ (T_in b).2.1 := by decide +kernel
theorem t_in_ok : ∀ k, k < 4 → parseFieldDescriptor (T_in k).2.2.1 = some (t_in k) := by decide +kernel
def R_it : String := "HostedCalls$Items"
def T_it : u_T := fun k => match k with
  | 0 => ("HostedCalls$Items", "places", "[I", true)
  | 1 => ("HostedCalls$Items", "numbers", "[J", true)
  | 2 => ("HostedCalls$Items", "counts", "[I", true)
  | _ => ("HostedCalls$Items", "count", "I", false)
def t_it : Nat → FieldType := fun k => match k with
  | 0 => (.array .int)
  | 1 => (.array .long)
  | 2 => (.array .int)
  | _ => .int
theorem n_it_ok : ∀ a, a < 4 → ∀ b, b < 4 → a ≠ b → (T_it a).2.1 ≠ (T_it b).2.1 := by decide +kernel
theorem t_it_ok : ∀ k, k < 4 → parseFieldDescriptor (T_it k).2.2.1 = some (t_it k) := by decide +kernel
def R_re : String := "HostedCalls$Reader"
def T_re : u_T := fun k => match k with
  | 0 => ("HostedCalls$Reader", "sender", "LHostedCalls$Instance;", true)
  | 1 => ("HostedCalls$Reader", "items", "LHostedCalls$Items;", true)
  | 2 => ("HostedCalls$Reader", "trap", "LHostedCalls$Trap;", true)
  | _ => ("HostedCalls$Reader", "bytes", "J", false)
def t_re : Nat → FieldType := fun k => match k with
  | 0 => (.object "HostedCalls$Instance")
  | 1 => (.object "HostedCalls$Items")
  | 2 => (.object "HostedCalls$Trap")
  | _ => .long
theorem n_re_ok : ∀ a, a < 4 → ∀ b, b < 4 → a ≠ b → (T_re a).2.1 ≠ (T_re b).2.1 := by decide +kernel
theorem t_re_ok : ∀ k, k < 4 → parseFieldDescriptor (T_re k).2.2.1 = some (t_re k) := by decide +kernel
def R_wt : String := "HostedCalls$Writer"
def T_wt : u_T := fun k => match k with
  | 0 => ("HostedCalls$Writer", "sender", "LHostedCalls$Instance;", true)
  | 1 => ("HostedCalls$Writer", "receiver", "LHostedCalls$Instance;", true)
  | 2 => ("HostedCalls$Writer", "items", "LHostedCalls$Items;", true)
  | 3 => ("HostedCalls$Writer", "trap", "LHostedCalls$Trap;", true)
  | _ => ("HostedCalls$Writer", "next", "I", false)
def t_wt : Nat → FieldType := fun k => match k with
  | 0 => (.object "HostedCalls$Instance")
  | 1 => (.object "HostedCalls$Instance")
  | 2 => (.object "HostedCalls$Items")
  | 3 => (.object "HostedCalls$Trap")
  | _ => .int
theorem n_wt_ok : ∀ a, a < 5 → ∀ b, b < 5 → a ≠ b → (T_wt a).2.1 ≠ (T_wt b).2.1 := by decide +kernel
theorem t_wt_ok : ∀ k, k < 5 → parseFieldDescriptor (T_wt k).2.2.1 = some (t_wt k) := by decide +kernel
def R_mo : String := "HostedCallsModel"
def T_mo : u_T := fun k => match k with
  | 0 => ("HostedCallsModel", "code", "I", false)
  | 1 => ("HostedCallsModel", "types", "I", false)
  | 2 => ("HostedCallsModel", "kinds", "[I", true)
  | 3 => ("HostedCallsModel", "numbers", "[I", true)
  | 4 => ("HostedCallsModel", "sizes", "[I", true)
  | 5 => ("HostedCallsModel", "aligns", "[I", true)
  | 6 => ("HostedCallsModel", "depths", "[I", true)
  | 7 => ("HostedCallsModel", "counts", "[I", true)
  | 8 => ("HostedCallsModel", "parts", "[I", true)
  | 9 => ("HostedCallsModel", "offsets", "[I", true)
  | 10 => ("HostedCallsModel", "drafted", "I", false)
  | 11 => ("HostedCallsModel", "draft", "[I", true)
  | 12 => ("HostedCallsModel", "instances", "I", false)
  | 13 => ("HostedCallsModel", "bytes", "[I", true)
  | 14 => ("HostedCallsModel", "heaps", "[I", true)
  | 15 => ("HostedCallsModel", "states", "[I", true)
  | 16 => ("HostedCallsModel", "used", "[Z", true)
  | 17 => ("HostedCallsModel", "resource", "[I", true)
  | 18 => ("HostedCallsModel", "owned", "[Z", true)
  | 19 => ("HostedCallsModel", "lender", "[I", true)
  | 20 => ("HostedCallsModel", "taken", "[Z", true)
  | 21 => ("HostedCallsModel", "pending", "[I", true)
  | 22 => ("HostedCallsModel", "made", "I", false)
  | 23 => ("HostedCallsModel", "kindOf", "[I", true)
  | 24 => ("HostedCallsModel", "gone", "[Z", true)
  | 25 => ("HostedCallsModel", "functions", "I", false)
  | 26 => ("HostedCallsModel", "home", "[I", true)
  | 27 => ("HostedCallsModel", "argument", "[I", true)
  | 28 => ("HostedCallsModel", "result", "[I", true)
  | 29 => ("HostedCallsModel", "levels", "I", false)
  | 30 => ("HostedCallsModel", "running", "[I", true)
  | 31 => ("HostedCallsModel", "called", "[I", true)
  | 32 => ("HostedCallsModel", "last", "[I", true)
  | 33 => ("HostedCallsModel", "trapCode", "I", false)
  | 34 => ("HostedCallsModel", "trapPlace", "I", false)
  | 35 => ("HostedCallsModel", "trapInstance", "I", false)
  | 36 => ("HostedCallsModel", "waits", "I", false)
  | 37 => ("HostedCallsModel", "waitT", "[I", true)
  | 38 => ("HostedCallsModel", "waitU", "[I", true)
  | 39 => ("HostedCallsModel", "waitMany", "[I", true)
  | 40 => ("HostedCallsModel", "waitPlace", "[I", true)
  | 41 => ("HostedCallsModel", "waitAbove", "[I", true)
  | 42 => ("HostedCallsModel", "waitIn", "[I", true)
  | 43 => ("HostedCallsModel", "items", "I", false)
  | 44 => ("HostedCallsModel", "itemU", "[I", true)
  | 45 => ("HostedCallsModel", "itemPlace", "[I", true)
  | 46 => ("HostedCallsModel", "itemAbove", "[I", true)
  | 47 => ("HostedCallsModel", "itemIn", "[I", true)
  | 48 => ("HostedCallsModel", "itemFrom", "[I", true)
  | 49 => ("HostedCallsModel", "itemMany", "[I", true)
  | 50 => ("HostedCallsModel", "itemTo", "[I", true)
  | 51 => ("HostedCallsModel", "itemRoom", "[I", true)
  | 52 => ("HostedCallsModel", "fresh", "I", false)
  | 53 => ("HostedCallsModel", "freshOnes", "[I", true)
  | 54 => ("HostedCallsModel", "fault", "I", false)
  | 55 => ("HostedCallsModel", "faultPlace", "I", false)
  | 56 => ("HostedCallsModel", "layDepth", "I", false)
  | 57 => ("HostedCallsModel", "layAlign", "I", false)
  | 58 => ("HostedCallsModel", "laySize", "I", false)
  | _ => ("HostedCallsModel", "layOffsets", "[I", true)
def t_mo : Nat → FieldType := fun k => match k with
  | 0 => .int
  | 1 => .int
  | 2 => (.array .int)
  | 3 => (.array .int)
  | 4 => (.array .int)
  | 5 => (.array .int)
  | 6 => (.array .int)
  | 7 => (.array .int)
  | 8 => (.array .int)
  | 9 => (.array .int)
  | 10 => .int
  | 11 => (.array .int)
  | 12 => .int
  | 13 => (.array .int)
  | 14 => (.array .int)
  | 15 => (.array .int)
  | 16 => (.array .boolean)
  | 17 => (.array .int)
  | 18 => (.array .boolean)
  | 19 => (.array .int)
  | 20 => (.array .boolean)
  | 21 => (.array .int)
  | 22 => .int
  | 23 => (.array .int)
  | 24 => (.array .boolean)
  | 25 => .int
  | 26 => (.array .int)
  | 27 => (.array .int)
  | 28 => (.array .int)
  | 29 => .int
  | 30 => (.array .int)
  | 31 => (.array .int)
  | 32 => (.array .int)
  | 33 => .int
  | 34 => .int
  | 35 => .int
  | 36 => .int
  | 37 => (.array .int)
  | 38 => (.array .int)
  | 39 => (.array .int)
  | 40 => (.array .int)
  | 41 => (.array .int)
  | 42 => (.array .int)
  | 43 => .int
  | 44 => (.array .int)
  | 45 => (.array .int)
  | 46 => (.array .int)
  | 47 => (.array .int)
  | 48 => (.array .int)
  | 49 => (.array .int)
  | 50 => (.array .int)
  | 51 => (.array .int)
  | 52 => .int
  | 53 => (.array .int)
  | 54 => .int
  | 55 => .int
  | 56 => .int
  | 57 => .int
  | 58 => .int
  | _ => (.array .int)
theorem n_mo_ok : ∀ a, a < 60 → ∀ b, b < 60 → a ≠ b → (T_mo a).2.1 ≠ (T_mo b).2.1 := by decide +kernel
theorem t_mo_ok : ∀ k, k < 60 → parseFieldDescriptor (T_mo k).2.2.1 = some (t_mo k) := by decide +kernel
abbrev cl_A : List vw_C := [(R_hc, T_hc, 18), (R_ty, T_ty, 9), (R_fu, T_fu, 3), (R_tr, T_tr, 2), (R_ha, T_ha, 5), (R_in, T_in, 4), (R_it, T_it, 4), (R_re, T_re, 4), (R_wt, T_wt, 5), (R_mo, T_mo, 60)]
