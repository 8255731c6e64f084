/-! ===== names of classes and fields (as printed) ===== -/
def RX0 : String := "InsuredFlame$Clerk"
def TX0 : u_T := fun k => match k with
  | _ => ("InsuredFlame$Clerk", "order", "[I", true)
def tyX0 : Nat → FieldType := fun k => match k with
  | _ => .array .int
abbrev wsX00 : List Cond := u_ws RX0 TX0 1
theorem nmX0 : ∀ a, a < 1 → ∀ b, b < 1 → a ≠ b → (TX0 a).2.1 ≠ (TX0 b).2.1 := by decide +kernel
theorem tyX0_ok : ∀ k, k < 1 → parseFieldDescriptor (TX0 k).2.2.1 = some (tyX0 k) := by decide +kernel
def RX1 : String := "InsuredFlame$Cut"
def TX1 : u_T := fun k => match k with
  | 0 => ("InsuredFlame$Cut", "goesThrough", "[Z", true)
  | 1 => ("InsuredFlame$Cut", "goesTo", "[Z", true)
  | 2 => ("InsuredFlame$Cut", "cameFrom", "[I", true)
  | 3 => ("InsuredFlame$Cut", "queue", "[I", true)
  | _ => ("InsuredFlame$Cut", "queued", "I", false)
def tyX1 : Nat → FieldType := fun k => match k with
  | 0 => .array .boolean
  | 1 => .array .boolean
  | 2 => .array .int
  | 3 => .array .int
  | _ => .int
abbrev wsX10 : List Cond := u_ws RX1 TX1 5
theorem nmX1 : ∀ a, a < 5 → ∀ b, b < 5 → a ≠ b → (TX1 a).2.1 ≠ (TX1 b).2.1 := by decide +kernel
theorem tyX1_ok : ∀ k, k < 5 → parseFieldDescriptor (TX1 k).2.2.1 = some (tyX1 k) := by decide +kernel
def RX2 : String := "InsuredFlame$Fire"
def TX2 : u_T := fun k => match k with
  | 0 => ("InsuredFlame$Fire", "letters", "[I", true)
  | _ => ("InsuredFlame$Fire", "burning", "[I", true)
def tyX2 : Nat → FieldType := fun k => match k with
  | 0 => .array .int
  | _ => .array .int
abbrev wsX20 : List Cond := u_ws RX2 TX2 2
theorem nmX2 : ∀ a, a < 2 → ∀ b, b < 2 → a ≠ b → (TX2 a).2.1 ≠ (TX2 b).2.1 := by decide +kernel
theorem tyX2_ok : ∀ k, k < 2 → parseFieldDescriptor (TX2 k).2.2.1 = some (tyX2 k) := by decide +kernel
def RX3 : String := "InsuredFlame$Ground"
def TX3 : u_T := fun k => match k with
  | 0 => ("InsuredFlame$Ground", "time", "[I", true)
  | 1 => ("InsuredFlame$Ground", "reached", "I", false)
  | 2 => ("InsuredFlame$Ground", "queue", "[I", true)
  | 3 => ("InsuredFlame$Ground", "spreadFrom", "I", false)
  | 4 => ("InsuredFlame$Ground", "walkTime", "[I", true)
  | _ => ("InsuredFlame$Ground", "walkQueue", "[I", true)
def tyX3 : Nat → FieldType := fun k => match k with
  | 0 => .array .int
  | 1 => .int
  | 2 => .array .int
  | 3 => .int
  | 4 => .array .int
  | _ => .array .int
abbrev wsX30 : List Cond := u_ws RX3 TX3 6
theorem nmX3 : ∀ a, a < 6 → ∀ b, b < 6 → a ≠ b → (TX3 a).2.1 ≠ (TX3 b).2.1 := by decide +kernel
theorem tyX3_ok : ∀ k, k < 6 → parseFieldDescriptor (TX3 k).2.2.1 = some (tyX3 k) := by decide +kernel
def RX4 : String := "InsuredFlame$Law"
def TX4 : u_T := fun k => match k with
  | 0 => ("InsuredFlame$Law", "ops", "[I", true)
  | 1 => ("InsuredFlame$Law", "args", "[I", true)
  | 2 => ("InsuredFlame$Law", "stack", "[I", true)
  | 3 => ("InsuredFlame$Law", "ruleLetter", "[I", true)
  | 4 => ("InsuredFlame$Law", "amountAt", "[I", true)
  | 5 => ("InsuredFlame$Law", "conditionAt", "[I", true)
  | 6 => ("InsuredFlame$Law", "ruleEnd", "[I", true)
  | 7 => ("InsuredFlame$Law", "size", "I", false)
  | 8 => ("InsuredFlame$Law", "lettersUsed", "I", false)
  | _ => ("InsuredFlame$Law", "rules", "I", false)
def tyX4 : Nat → FieldType := fun k => match k with
  | 0 => .array .int
  | 1 => .array .int
  | 2 => .array .int
  | 3 => .array .int
  | 4 => .array .int
  | 5 => .array .int
  | 6 => .array .int
  | 7 => .int
  | 8 => .int
  | _ => .int
abbrev wsX40 : List Cond := u_ws RX4 TX4 10
theorem nmX4 : ∀ a, a < 10 → ∀ b, b < 10 → a ≠ b → (TX4 a).2.1 ≠ (TX4 b).2.1 := by decide +kernel
theorem tyX4_ok : ∀ k, k < 10 → parseFieldDescriptor (TX4 k).2.2.1 = some (tyX4 k) := by decide +kernel
def RX5 : String := "InsuredFlame$LawReader"
def TX5 : u_T := fun k => match k with
  | _ => ("InsuredFlame$LawReader", "text", "LInsuredFlame$Text;", true)
def tyX5 : Nat → FieldType := fun k => match k with
  | _ => .object "InsuredFlame$Text"
abbrev wsX50 : List Cond := u_ws RX5 TX5 1
theorem nmX5 : ∀ a, a < 1 → ∀ b, b < 1 → a ≠ b → (TX5 a).2.1 ≠ (TX5 b).2.1 := by decide +kernel
theorem tyX5_ok : ∀ k, k < 1 → parseFieldDescriptor (TX5 k).2.2.1 = some (tyX5 k) := by decide +kernel
def RX6 : String := "InsuredFlame$OrdersReader"
def TX6 : u_T := fun k => match k with
  | _ => ("InsuredFlame$OrdersReader", "text", "LInsuredFlame$Text;", true)
def tyX6 : Nat → FieldType := fun k => match k with
  | _ => .object "InsuredFlame$Text"
abbrev wsX60 : List Cond := u_ws RX6 TX6 1
theorem nmX6 : ∀ a, a < 1 → ∀ b, b < 1 → a ≠ b → (TX6 a).2.1 ≠ (TX6 b).2.1 := by decide +kernel
theorem tyX6_ok : ∀ k, k < 1 → parseFieldDescriptor (TX6 k).2.2.1 = some (tyX6 k) := by decide +kernel
def RX7 : String := "InsuredFlame$Scene"
def TX7 : u_T := fun k => match k with
  | 0 => ("InsuredFlame$Scene", "kind", "[I", true)
  | 1 => ("InsuredFlame$Scene", "state", "[I", true)
  | 2 => ("InsuredFlame$Scene", "left", "[I", true)
  | 3 => ("InsuredFlame$Scene", "at", "[I", true)
  | 4 => ("InsuredFlame$Scene", "value", "[I", true)
  | 5 => ("InsuredFlame$Scene", "sum", "[I", true)
  | 6 => ("InsuredFlame$Scene", "told", "I", false)
  | 7 => ("InsuredFlame$Scene", "gone", "I", false)
  | 8 => ("InsuredFlame$Scene", "wind", "I", false)
  | 9 => ("InsuredFlame$Scene", "minute", "I", false)
  | _ => ("InsuredFlame$Scene", "x", "I", false)
def tyX7 : Nat → FieldType := fun k => match k with
  | 0 => .array .int
  | 1 => .array .int
  | 2 => .array .int
  | 3 => .array .int
  | 4 => .array .int
  | 5 => .array .int
  | 6 => .int
  | 7 => .int
  | 8 => .int
  | 9 => .int
  | _ => .int
abbrev wsX70 : List Cond := u_ws RX7 TX7 11
theorem nmX7 : ∀ a, a < 11 → ∀ b, b < 11 → a ≠ b → (TX7 a).2.1 ≠ (TX7 b).2.1 := by decide +kernel
theorem tyX7_ok : ∀ k, k < 11 → parseFieldDescriptor (TX7 k).2.2.1 = some (tyX7 k) := by decide +kernel
def RX8 : String := "InsuredFlame$Text"
def TX8 : u_T := fun k => match k with
  | 0 => ("InsuredFlame$Text", "bytes", "[I", false)
  | 1 => ("InsuredFlame$Text", "length", "I", false)
  | 2 => ("InsuredFlame$Text", "fault", "I", false)
  | 3 => ("InsuredFlame$Text", "faultPlace", "I", false)
  | _ => ("InsuredFlame$Text", "pos", "I", false)
def tyX8 : Nat → FieldType := fun k => match k with
  | 0 => .array .int
  | 1 => .int
  | 2 => .int
  | 3 => .int
  | _ => .int
abbrev wsX80 : List Cond := u_ws RX8 TX8 5
theorem nmX8 : ∀ a, a < 5 → ∀ b, b < 5 → a ≠ b → (TX8 a).2.1 ≠ (TX8 b).2.1 := by decide +kernel
theorem tyX8_ok : ∀ k, k < 5 → parseFieldDescriptor (TX8 k).2.2.1 = some (tyX8 k) := by decide +kernel
def RX9 : String := "InsuredFlame$TownReader"
def TX9 : u_T := fun k => match k with
  | 0 => ("InsuredFlame$TownReader", "kinds", "[I", true)
  | _ => ("InsuredFlame$TownReader", "text", "LInsuredFlame$Text;", true)
def tyX9 : Nat → FieldType := fun k => match k with
  | 0 => .array .int
  | _ => .object "InsuredFlame$Text"
abbrev wsX90 : List Cond := u_ws RX9 TX9 2
theorem nmX9 : ∀ a, a < 2 → ∀ b, b < 2 → a ≠ b → (TX9 a).2.1 ≠ (TX9 b).2.1 := by decide +kernel
theorem tyX9_ok : ∀ k, k < 2 → parseFieldDescriptor (TX9 k).2.2.1 = some (tyX9 k) := by decide +kernel
def RX10 : String := "InsuredFlame"
def TX10 : u_T := fun k => match k with
  | 0 => ("InsuredFlame", "tape", "[I", true)
  | 1 => ("InsuredFlame", "fed", "I", false)
  | 2 => ("InsuredFlame", "now", "LInsuredFlame$Scene;", true)
  | 3 => ("InsuredFlame", "kept", "LInsuredFlame$Scene;", true)
  | 4 => ("InsuredFlame", "trial", "LInsuredFlame$Scene;", true)
  | 5 => ("InsuredFlame", "hasKept", "Z", false)
  | 6 => ("InsuredFlame", "ruling", "LInsuredFlame$Law;", false)
  | 7 => ("InsuredFlame", "drafted", "LInsuredFlame$Law;", false)
  | 8 => ("InsuredFlame", "lawReader", "LInsuredFlame$LawReader;", true)
  | 9 => ("InsuredFlame", "townReader", "LInsuredFlame$TownReader;", true)
  | 10 => ("InsuredFlame", "ordersReader", "LInsuredFlame$OrdersReader;", true)
  | 11 => ("InsuredFlame", "fire", "LInsuredFlame$Fire;", true)
  | 12 => ("InsuredFlame", "ground", "LInsuredFlame$Ground;", true)
  | 13 => ("InsuredFlame", "cut", "LInsuredFlame$Cut;", true)
  | _ => ("InsuredFlame", "clerk", "LInsuredFlame$Clerk;", true)
def tyX10 : Nat → FieldType := fun k => match k with
  | 0 => .array .int
  | 1 => .int
  | 2 => .object "InsuredFlame$Scene"
  | 3 => .object "InsuredFlame$Scene"
  | 4 => .object "InsuredFlame$Scene"
  | 5 => .boolean
  | 6 => .object "InsuredFlame$Law"
  | 7 => .object "InsuredFlame$Law"
  | 8 => .object "InsuredFlame$LawReader"
  | 9 => .object "InsuredFlame$TownReader"
  | 10 => .object "InsuredFlame$OrdersReader"
  | 11 => .object "InsuredFlame$Fire"
  | 12 => .object "InsuredFlame$Ground"
  | 13 => .object "InsuredFlame$Cut"
  | _ => .object "InsuredFlame$Clerk"
abbrev wsX100 : List Cond := u_ws RX10 TX10 15
theorem nmX10 : ∀ a, a < 15 → ∀ b, b < 15 → a ≠ b → (TX10 a).2.1 ≠ (TX10 b).2.1 := by decide +kernel
theorem tyX10_ok : ∀ k, k < 15 → parseFieldDescriptor (TX10 k).2.2.1 = some (tyX10 k) := by decide +kernel
def RX11 : String := "InsuredFlameModel"
def TX11 : u_T := fun k => match k with
  | 0 => ("InsuredFlameModel", "now", "[I", true)
  | 1 => ("InsuredFlameModel", "aside", "[I", true)
  | 2 => ("InsuredFlameModel", "kept", "[I", true)
  | 3 => ("InsuredFlameModel", "kindOf", "[I", true)
  | 4 => ("InsuredFlameModel", "wasKind", "[I", true)
  | 5 => ("InsuredFlameModel", "tape", "[B", true)
  | 6 => ("InsuredFlameModel", "taped", "I", false)
  | 7 => ("InsuredFlameModel", "place0", "I", false)
  | 8 => ("InsuredFlameModel", "length0", "I", false)
  | 9 => ("InsuredFlameModel", "fault", "I", false)
  | 10 => ("InsuredFlameModel", "number0", "I", false)
  | 11 => ("InsuredFlameModel", "open", "I", false)
  | 12 => ("InsuredFlameModel", "codeMany", "I", false)
  | 13 => ("InsuredFlameModel", "waiting", "I", false)
  | 14 => ("InsuredFlameModel", "saidMany", "I", false)
  | 15 => ("InsuredFlameModel", "clauses", "I", false)
  | 16 => ("InsuredFlameModel", "said", "[I", true)
  | 17 => ("InsuredFlameModel", "waitsAt", "[I", true)
  | 18 => ("InsuredFlameModel", "saidLetter", "[I", true)
  | 19 => ("InsuredFlameModel", "saidFrom", "[I", true)
  | 20 => ("InsuredFlameModel", "saidHalf", "[I", true)
  | 21 => ("InsuredFlameModel", "saidTo", "[I", true)
  | 22 => ("InsuredFlameModel", "codes", "[I", true)
  | 23 => ("InsuredFlameModel", "clauseOf", "[I", true)
  | 24 => ("InsuredFlameModel", "codeFrom", "[I", true)
  | 25 => ("InsuredFlameModel", "codeHalf", "[I", true)
  | 26 => ("InsuredFlameModel", "codeTo", "[I", true)
  | 27 => ("InsuredFlameModel", "stack", "[I", true)
  | 28 => ("InsuredFlameModel", "facts", "[I", true)
  | 29 => ("InsuredFlameModel", "newKinds", "[I", true)
  | 30 => ("InsuredFlameModel", "lines", "I", false)
  | 31 => ("InsuredFlameModel", "spot0", "I", false)
  | 32 => ("InsuredFlameModel", "spotFrom", "I", false)
  | 33 => ("InsuredFlameModel", "didBurn", "[Z", true)
  | 34 => ("InsuredFlameModel", "lostNow", "I", false)
  | 35 => ("InsuredFlameModel", "fireAt", "[I", true)
  | 36 => ("InsuredFlameModel", "queue", "[I", true)
  | 37 => ("InsuredFlameModel", "aheadOf", "[I", true)
  | 38 => ("InsuredFlameModel", "behindOf", "[I", true)
  | 39 => ("InsuredFlameModel", "cameBy", "[I", true)
  | 40 => ("InsuredFlameModel", "tail0", "I", false)
  | 41 => ("InsuredFlameModel", "rowNow", "[I", true)
  | 42 => ("InsuredFlameModel", "hereAt", "[I", true)
  | 43 => ("InsuredFlameModel", "walkers", "[I", true)
  | 44 => ("InsuredFlameModel", "rowBy", "[I", true)
  | _ => ("InsuredFlameModel", "isKept", "Z", false)
def tyX11 : Nat → FieldType := fun k => match k with
  | 0 => .array .int
  | 1 => .array .int
  | 2 => .array .int
  | 3 => .array .int
  | 4 => .array .int
  | 5 => .array .byte
  | 6 => .int
  | 7 => .int
  | 8 => .int
  | 9 => .int
  | 10 => .int
  | 11 => .int
  | 12 => .int
  | 13 => .int
  | 14 => .int
  | 15 => .int
  | 16 => .array .int
  | 17 => .array .int
  | 18 => .array .int
  | 19 => .array .int
  | 20 => .array .int
  | 21 => .array .int
  | 22 => .array .int
  | 23 => .array .int
  | 24 => .array .int
  | 25 => .array .int
  | 26 => .array .int
  | 27 => .array .int
  | 28 => .array .int
  | 29 => .array .int
  | 30 => .int
  | 31 => .int
  | 32 => .int
  | 33 => .array .boolean
  | 34 => .int
  | 35 => .array .int
  | 36 => .array .int
  | 37 => .array .int
  | 38 => .array .int
  | 39 => .array .int
  | 40 => .int
  | 41 => .array .int
  | 42 => .array .int
  | 43 => .array .int
  | 44 => .array .int
  | _ => .boolean
abbrev wsX110 : List Cond := u_ws RX11 TX11 46
theorem nmX11 : ∀ a, a < 46 → ∀ b, b < 46 → a ≠ b → (TX11 a).2.1 ≠ (TX11 b).2.1 := by decide +kernel
theorem tyX11_ok : ∀ k, k < 46 → parseFieldDescriptor (TX11 k).2.2.1 = some (tyX11 k) := by decide +kernel
abbrev vwCl : List vw_C := [(RX0, TX0, 1), (RX1, TX1, 5), (RX2, TX2, 2), (RX3, TX3, 6), (RX4, TX4, 10), (RX5, TX5, 1), (RX6, TX6, 1), (RX7, TX7, 11), (RX8, TX8, 5), (RX9, TX9, 2), (RX10, TX10, 15), (RX11, TX11, 46)]
