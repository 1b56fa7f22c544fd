theorem zmem {i : Nat} {w : Cond} {l : List Cond} (h : l[i]? = some w) : w ∈ l := List.mem_of_getElem? h
/-- the good words of the tables, with the private methods' selections: every method's words -/
def zALL : List Cond := lw_tbl.filter goodWord
theorem zall {w : Cond} (h : w ∈ tables_1) (g : goodWord w = true) : w ∈ zALL := List.mem_filter.mpr ⟨List.mem_append_right _ h, g⟩
theorem zalls {w : Cond} (h : w ∈ k2_sels lw_privs) (g : goodWord w = true) : w ∈ zALL := List.mem_filter.mpr ⟨List.mem_append_left _ h, g⟩
theorem zALL_tbl : ∀ w ∈ zALL, w ∈ lw_tbl := fun _ h => (List.mem_filter.mp h).1
theorem zALL_good : ∀ w ∈ zALL, ((w.onTables && w.keeps) = true ∨ ∃ ty, w = .arrayClass ty) := fun _ h => good_of_word ((List.mem_filter.mp h).2)
theorem zg {c : Cond} (h : c ∈ zALL) : GoodIn zALL (c :: zALL) := fun w hw => by
  rcases List.mem_cons.mp hw with e | e
  · rw [e]; exact ⟨h, zALL_good c h⟩
  · exact ⟨e, zALL_good w e⟩
def zIsN (w : Cond) : Bool := match w with
  | .fieldLinkNest _ _ _ _ _ _ => true
  | .methodLinkNest _ _ _ _ => true
  | _ => false
def nwL : List Cond := tables_1.filter zIsN
theorem znw {w : Cond} (h : w ∈ tables_1) (g : zIsN w = true) : w ∈ nwL := List.mem_filter.mpr ⟨h, g⟩
theorem nwL_tbl : ∀ w ∈ nwL, w ∈ lw_tbl := fun _ h => List.mem_append_right _ ((List.mem_filter.mp h).1)
theorem nwL_is : ∀ w ∈ nwL, zIsN w = true := fun _ h => (List.mem_filter.mp h).2
theorem zt1 {w : Cond} (h : w ∈ tables_1_1) : w ∈ tables_1 := List.mem_append_left _ h
theorem zt2 {w : Cond} (h : w ∈ tables_1_2) : w ∈ tables_1 := List.mem_append_right _ (List.mem_append_left _ h)
theorem zt3 {w : Cond} (h : w ∈ tables_1_3) : w ∈ tables_1 := List.mem_append_right _ (List.mem_append_right _ h)
def RX0 : String := "MatchSeeker$Finder"
def TX0 : u_T := fun k => match k with
  | 0 => ("MatchSeeker$Finder", "row", "LMatchSeeker$Row;", true)
  | 1 => ("MatchSeeker$Finder", "law", "LMatchSeeker$Rule;", true)
  | 2 => ("MatchSeeker$Finder", "latestInSlot", "[I", false)
  | 3 => ("MatchSeeker$Finder", "linkedBefore", "[I", false)
  | 4 => ("MatchSeeker$Finder", "linked", "I", false)
  | 5 => ("MatchSeeker$Finder", "linkedLeast", "I", false)
  | 6 => ("MatchSeeker$Finder", "sameFrom", "[I", false)
  | 7 => ("MatchSeeker$Finder", "sameTo", "[I", false)
  | 8 => ("MatchSeeker$Finder", "place", "I", false)
  | 9 => ("MatchSeeker$Finder", "candidate", "I", false)
  | 10 => ("MatchSeeker$Finder", "lowest", "I", false)
  | 11 => ("MatchSeeker$Finder", "limit", "I", false)
  | 12 => ("MatchSeeker$Finder", "toBeat", "I", false)
  | 13 => ("MatchSeeker$Finder", "length", "I", false)
  | _ => ("MatchSeeker$Finder", "distance", "I", false)
def tyX0 : Nat → FieldType := fun k => match k with
  | 0 => .object "MatchSeeker$Row"
  | 1 => .object "MatchSeeker$Rule"
  | 2 => .array .int
  | 3 => .array .int
  | 4 => .int
  | 5 => .int
  | 6 => .array .int
  | 7 => .array .int
  | 8 => .int
  | 9 => .int
  | 10 => .int
  | 11 => .int
  | 12 => .int
  | 13 => .int
  | _ => .int
abbrev wsX00 : List Cond := u_ws RX0 TX0 15
theorem nmX0 : ∀ a, a < 15 → ∀ b, b < 15 → a ≠ b → (TX0 a).2.1 ≠ (TX0 b).2.1 := by decide +kernel
theorem tyX0_ok : ∀ k, k < 15 → parseFieldDescriptor (TX0 k).2.2.1 = some (tyX0 k) := by decide +kernel
set_option maxRecDepth 100000 in
theorem iwX0 : ∀ w ∈ wsX00, w ∈ zALL := by decide +kernel
def RX1 : String := "MatchSeeker$Found"
def TX1 : u_T := fun k => match k with
  | 0 => ("MatchSeeker$Found", "row", "LMatchSeeker$Row;", true)
  | 1 => ("MatchSeeker$Found", "law", "LMatchSeeker$Rule;", true)
  | 2 => ("MatchSeeker$Found", "literalsBefore", "[I", false)
  | 3 => ("MatchSeeker$Found", "lengths", "[I", false)
  | 4 => ("MatchSeeker$Found", "distances", "[I", false)
  | 5 => ("MatchSeeker$Found", "stretches", "I", false)
  | 6 => ("MatchSeeker$Found", "tail", "I", false)
  | 7 => ("MatchSeeker$Found", "literals", "I", false)
  | 8 => ("MatchSeeker$Found", "cost", "I", false)
  | 9 => ("MatchSeeker$Found", "greatestLength", "I", false)
  | 10 => ("MatchSeeker$Found", "greatestDistance", "I", false)
  | 11 => ("MatchSeeker$Found", "bytesThen", "I", false)
  | 12 => ("MatchSeeker$Found", "pastThen", "I", false)
  | _ => ("MatchSeeker$Found", "rebuilt", "[B", false)
def tyX1 : Nat → FieldType := fun k => match k with
  | 0 => .object "MatchSeeker$Row"
  | 1 => .object "MatchSeeker$Rule"
  | 2 => .array .int
  | 3 => .array .int
  | 4 => .array .int
  | 5 => .int
  | 6 => .int
  | 7 => .int
  | 8 => .int
  | 9 => .int
  | 10 => .int
  | 11 => .int
  | 12 => .int
  | _ => .array .byte
abbrev wsX10 : List Cond := u_ws RX1 TX1 14
theorem nmX1 : ∀ a, a < 14 → ∀ b, b < 14 → a ≠ b → (TX1 a).2.1 ≠ (TX1 b).2.1 := by decide +kernel
theorem tyX1_ok : ∀ k, k < 14 → parseFieldDescriptor (TX1 k).2.2.1 = some (tyX1 k) := by decide +kernel
set_option maxRecDepth 100000 in
theorem iwX1 : ∀ w ∈ wsX10, w ∈ zALL := by decide +kernel
def RX2 : String := "MatchSeeker$Plan"
def TX2 : u_T := fun k => match k with
  | 0 => ("MatchSeeker$Plan", "row", "LMatchSeeker$Row;", true)
  | 1 => ("MatchSeeker$Plan", "law", "LMatchSeeker$Rule;", true)
  | 2 => ("MatchSeeker$Plan", "finder", "LMatchSeeker$Finder;", true)
  | 3 => ("MatchSeeker$Plan", "cost", "[I", false)
  | 4 => ("MatchSeeker$Plan", "length", "[I", false)
  | 5 => ("MatchSeeker$Plan", "distance", "[I", false)
  | 6 => ("MatchSeeker$Plan", "ends", "[I", false)
  | _ => ("MatchSeeker$Plan", "endCount", "I", false)
def tyX2 : Nat → FieldType := fun k => match k with
  | 0 => .object "MatchSeeker$Row"
  | 1 => .object "MatchSeeker$Rule"
  | 2 => .object "MatchSeeker$Finder"
  | 3 => .array .int
  | 4 => .array .int
  | 5 => .array .int
  | 6 => .array .int
  | _ => .int
abbrev wsX20 : List Cond := u_ws RX2 TX2 8
theorem nmX2 : ∀ a, a < 8 → ∀ b, b < 8 → a ≠ b → (TX2 a).2.1 ≠ (TX2 b).2.1 := by decide +kernel
theorem tyX2_ok : ∀ k, k < 8 → parseFieldDescriptor (TX2 k).2.2.1 = some (tyX2 k) := by decide +kernel
set_option maxRecDepth 100000 in
theorem iwX2 : ∀ w ∈ wsX20, w ∈ zALL := by decide +kernel
def RX3 : String := "MatchSeeker$Row"
def TX3 : u_T := fun k => match k with
  | 0 => ("MatchSeeker$Row", "bytes", "[B", false)
  | 1 => ("MatchSeeker$Row", "filled", "I", false)
  | _ => ("MatchSeeker$Row", "past", "I", false)
def tyX3 : Nat → FieldType := fun k => match k with
  | 0 => .array .byte
  | 1 => .int
  | _ => .int
abbrev wsX30 : List Cond := u_ws RX3 TX3 3
theorem nmX3 : ∀ a, a < 3 → ∀ b, b < 3 → a ≠ b → (TX3 a).2.1 ≠ (TX3 b).2.1 := by decide +kernel
theorem tyX3_ok : ∀ k, k < 3 → parseFieldDescriptor (TX3 k).2.2.1 = some (tyX3 k) := by decide +kernel
set_option maxRecDepth 100000 in
theorem iwX3 : ∀ w ∈ wsX30, w ∈ zALL := by decide +kernel
def RX4 : String := "MatchSeeker$Rule"
def TX4 : u_T := fun k => match k with
  | 0 => ("MatchSeeker$Rule", "way", "I", false)
  | 1 => ("MatchSeeker$Rule", "window", "I", false)
  | 2 => ("MatchSeeker$Rule", "least", "I", false)
  | 3 => ("MatchSeeker$Rule", "cap", "I", false)
  | 4 => ("MatchSeeker$Rule", "gapBehindLast", "I", false)
  | 5 => ("MatchSeeker$Rule", "gapBehindEnd", "I", false)
  | 6 => ("MatchSeeker$Rule", "literalPrice", "I", false)
  | _ => ("MatchSeeker$Rule", "matchPrice", "I", false)
def tyX4 : Nat → FieldType := fun k => match k with
  | 0 => .int
  | 1 => .int
  | 2 => .int
  | 3 => .int
  | 4 => .int
  | 5 => .int
  | 6 => .int
  | _ => .int
abbrev wsX40 : List Cond := u_ws RX4 TX4 8
theorem nmX4 : ∀ a, a < 8 → ∀ b, b < 8 → a ≠ b → (TX4 a).2.1 ≠ (TX4 b).2.1 := by decide +kernel
theorem tyX4_ok : ∀ k, k < 8 → parseFieldDescriptor (TX4 k).2.2.1 = some (tyX4 k) := by decide +kernel
set_option maxRecDepth 100000 in
theorem iwX4 : ∀ w ∈ wsX40, w ∈ zALL := by decide +kernel
def RX5 : String := "MatchSeeker"
def TX5 : u_T := fun k => match k with
  | 0 => ("MatchSeeker", "row", "LMatchSeeker$Row;", true)
  | 1 => ("MatchSeeker", "law", "LMatchSeeker$Rule;", true)
  | 2 => ("MatchSeeker", "finder", "LMatchSeeker$Finder;", true)
  | 3 => ("MatchSeeker", "plan", "LMatchSeeker$Plan;", true)
  | _ => ("MatchSeeker", "found", "LMatchSeeker$Found;", true)
def tyX5 : Nat → FieldType := fun k => match k with
  | 0 => .object "MatchSeeker$Row"
  | 1 => .object "MatchSeeker$Rule"
  | 2 => .object "MatchSeeker$Finder"
  | 3 => .object "MatchSeeker$Plan"
  | _ => .object "MatchSeeker$Found"
abbrev wsX50 : List Cond := u_ws RX5 TX5 5
theorem nmX5 : ∀ a, a < 5 → ∀ b, b < 5 → a ≠ b → (TX5 a).2.1 ≠ (TX5 b).2.1 := by decide +kernel
theorem tyX5_ok : ∀ k, k < 5 → parseFieldDescriptor (TX5 k).2.2.1 = some (tyX5 k) := by decide +kernel
set_option maxRecDepth 100000 in
theorem iwX5 : ∀ w ∈ wsX50, w ∈ zALL := by decide +kernel
def RX6 : String := "MatchSeekerModel"
def TX6 : u_T := fun k => match k with
  | 0 => ("MatchSeekerModel", "data", "[B", true)
  | 1 => ("MatchSeekerModel", "n", "I", false)
  | 2 => ("MatchSeekerModel", "h", "I", false)
  | 3 => ("MatchSeekerModel", "way", "I", false)
  | 4 => ("MatchSeekerModel", "window", "I", false)
  | 5 => ("MatchSeekerModel", "least", "I", false)
  | 6 => ("MatchSeekerModel", "cap", "I", false)
  | 7 => ("MatchSeekerModel", "a", "I", false)
  | 8 => ("MatchSeekerModel", "b", "I", false)
  | 9 => ("MatchSeekerModel", "literalPrice", "I", false)
  | 10 => ("MatchSeekerModel", "matchPrice", "I", false)
  | 11 => ("MatchSeekerModel", "before", "[I", true)
  | 12 => ("MatchSeekerModel", "length", "[I", true)
  | 13 => ("MatchSeekerModel", "distance", "[I", true)
  | 14 => ("MatchSeekerModel", "found", "I", false)
  | 15 => ("MatchSeekerModel", "tail", "I", false)
  | 16 => ("MatchSeekerModel", "cost", "I", false)
  | 17 => ("MatchSeekerModel", "allLiterals", "I", false)
  | 18 => ("MatchSeekerModel", "had", "I", false)
  | 19 => ("MatchSeekerModel", "hadHistory", "I", false)
  | 20 => ("MatchSeekerModel", "again", "[B", true)
  | 21 => ("MatchSeekerModel", "cheapest", "[I", true)
  | 22 => ("MatchSeekerModel", "firstLength", "[I", true)
  | 23 => ("MatchSeekerModel", "firstDistance", "[I", true)
  | 24 => ("MatchSeekerModel", "gotLength", "I", false)
  | _ => ("MatchSeekerModel", "gotDistance", "I", false)
def tyX6 : Nat → FieldType := fun k => match k with
  | 0 => .array .byte
  | 1 => .int
  | 2 => .int
  | 3 => .int
  | 4 => .int
  | 5 => .int
  | 6 => .int
  | 7 => .int
  | 8 => .int
  | 9 => .int
  | 10 => .int
  | 11 => .array .int
  | 12 => .array .int
  | 13 => .array .int
  | 14 => .int
  | 15 => .int
  | 16 => .int
  | 17 => .int
  | 18 => .int
  | 19 => .int
  | 20 => .array .byte
  | 21 => .array .int
  | 22 => .array .int
  | 23 => .array .int
  | 24 => .int
  | _ => .int
abbrev wsX60 : List Cond := u_ws RX6 TX6 26
theorem nmX6 : ∀ a, a < 26 → ∀ b, b < 26 → a ≠ b → (TX6 a).2.1 ≠ (TX6 b).2.1 := by decide +kernel
theorem tyX6_ok : ∀ k, k < 26 → parseFieldDescriptor (TX6 k).2.2.1 = some (tyX6 k) := by decide +kernel
set_option maxRecDepth 100000 in
theorem iwX6 : ∀ w ∈ wsX60, w ∈ zALL := by decide +kernel
def RJ7 : String := "java/util/Arrays"
def RL : String := "MatchSeekerLaw"
abbrev vwCl : List vw_C := [(RX0, TX0, 15), (RX1, TX1, 14), (RX2, TX2, 8), (RX3, TX3, 3), (RX4, TX4, 8), (RX5, TX5, 5), (RX6, TX6, 26)]
