def RX0 : String := "SitDown$Game"
def TX0 : u_T := fun k => match k with
  | 0 => ("SitDown$Game", "wills", "[I", true)
  | 1 => ("SitDown$Game", "orders", "[I", true)
  | 2 => ("SitDown$Game", "plan", "[I", true)
  | _ => ("SitDown$Game", "steps", "I", false)
def tyX0 : Nat → FieldType := fun k => match k with
  | 0 => .array .int
  | 1 => .array .int
  | 2 => .array .int
  | _ => .int
theorem nmX0 : ∀ a, a < 4 → ∀ b, b < 4 → a ≠ b → (TX0 a).2.1 ≠ (TX0 b).2.1 := by decide +kernel
theorem tyX0_ok : ∀ k, k < 4 → parseFieldDescriptor (TX0 k).2.2.1 = some (tyX0 k) := by decide +kernel
def RX1 : String := "SitDown$Holds"
def TX1 : u_T := fun k => match k with
  | 0 => ("SitDown$Holds", "size", "I", false)
  | 1 => ("SitDown$Holds", "shops", "I", false)
  | 2 => ("SitDown$Holds", "kinds", "[I", true)
  | 3 => ("SitDown$Holds", "firsts", "[I", true)
  | 4 => ("SitDown$Holds", "seconds", "[I", true)
  | 5 => ("SitDown$Holds", "warmths", "[I", true)
  | 6 => ("SitDown$Holds", "flooded", "[I", true)
  | 7 => ("SitDown$Holds", "told", "[I", true)
  | 8 => ("SitDown$Holds", "meals", "[I", true)
  | 9 => ("SitDown$Holds", "passed", "[I", true)
  | 10 => ("SitDown$Holds", "held", "[I", true)
  | 11 => ("SitDown$Holds", "guards", "[I", true)
  | 12 => ("SitDown$Holds", "open", "[I", true)
  | 13 => ("SitDown$Holds", "costs", "[I", true)
  | _ => ("SitDown$Holds", "worths", "[I", true)
def tyX1 : Nat → FieldType := fun k => match k with
  | 0 => .int
  | 1 => .int
  | 2 => .array .int
  | 3 => .array .int
  | 4 => .array .int
  | 5 => .array .int
  | 6 => .array .int
  | 7 => .array .int
  | 8 => .array .int
  | 9 => .array .int
  | 10 => .array .int
  | 11 => .array .int
  | 12 => .array .int
  | 13 => .array .int
  | _ => .array .int
theorem nmX1 : ∀ a, a < 15 → ∀ b, b < 15 → a ≠ b → (TX1 a).2.1 ≠ (TX1 b).2.1 := by decide +kernel
theorem tyX1_ok : ∀ k, k < 15 → parseFieldDescriptor (TX1 k).2.2.1 = some (tyX1 k) := by decide +kernel
def RX2 : String := "SitDown$Lists"
def TX2 : u_T := fun k => match k with
  | 0 => ("SitDown$Lists", "names", "[I", true)
  | _ => ("SitDown$Lists", "asked", "[I", true)
def tyX2 : Nat → FieldType := fun k => match k with
  | 0 => .array .int
  | _ => .array .int
theorem nmX2 : ∀ a, a < 2 → ∀ b, b < 2 → a ≠ b → (TX2 a).2.1 ≠ (TX2 b).2.1 := by decide +kernel
theorem tyX2_ok : ∀ k, k < 2 → parseFieldDescriptor (TX2 k).2.2.1 = some (tyX2 k) := by decide +kernel
def RX3 : String := "SitDown$Men"
def TX3 : u_T := fun k => match k with
  | 0 => ("SitDown$Men", "size", "I", false)
  | 1 => ("SitDown$Men", "shops", "[I", true)
  | 2 => ("SitDown$Men", "wills", "[I", true)
  | 3 => ("SitDown$Men", "debts", "[I", true)
  | _ => ("SitDown$Men", "hungers", "[I", true)
def tyX3 : Nat → FieldType := fun k => match k with
  | 0 => .int
  | 1 => .array .int
  | 2 => .array .int
  | 3 => .array .int
  | _ => .array .int
theorem nmX3 : ∀ a, a < 5 → ∀ b, b < 5 → a ≠ b → (TX3 a).2.1 ≠ (TX3 b).2.1 := by decide +kernel
theorem tyX3_ok : ∀ k, k < 5 → parseFieldDescriptor (TX3 k).2.2.1 = some (tyX3 k) := by decide +kernel
def RX4 : String := "SitDown$Rumours"
def TX4 : u_T := fun k => match k with
  | 0 => ("SitDown$Rumours", "size", "I", false)
  | 1 => ("SitDown$Rumours", "squads", "I", false)
  | 2 => ("SitDown$Rumours", "gates", "[I", true)
  | 3 => ("SitDown$Rumours", "credits", "[I", true)
  | 4 => ("SitDown$Rumours", "outs", "[I", true)
  | 5 => ("SitDown$Rumours", "squadsAt", "[I", true)
  | _ => ("SitDown$Rumours", "creditsAt", "[I", true)
def tyX4 : Nat → FieldType := fun k => match k with
  | 0 => .int
  | 1 => .int
  | 2 => .array .int
  | 3 => .array .int
  | 4 => .array .int
  | 5 => .array .int
  | _ => .array .int
theorem nmX4 : ∀ a, a < 7 → ∀ b, b < 7 → a ≠ b → (TX4 a).2.1 ≠ (TX4 b).2.1 := by decide +kernel
theorem tyX4_ok : ∀ k, k < 7 → parseFieldDescriptor (TX4 k).2.2.1 = some (tyX4 k) := by decide +kernel
def RX5 : String := "SitDown$Sheet"
def TX5 : u_T := fun k => match k with
  | 0 => ("SitDown$Sheet", "bits", "I", false)
  | 1 => ("SitDown$Sheet", "size", "I", false)
  | _ => ("SitDown$Sheet", "numbers", "[I", true)
def tyX5 : Nat → FieldType := fun k => match k with
  | 0 => .int
  | 1 => .int
  | _ => .array .int
theorem nmX5 : ∀ a, a < 3 → ∀ b, b < 3 → a ≠ b → (TX5 a).2.1 ≠ (TX5 b).2.1 := by decide +kernel
theorem tyX5_ok : ∀ k, k < 3 → parseFieldDescriptor (TX5 k).2.2.1 = some (tyX5 k) := by decide +kernel
def RX6 : String := "SitDown$Site"
def TX6 : u_T := fun k => match k with
  | 0 => ("SitDown$Site", "hour", "I", false)
  | 1 => ("SitDown$Site", "outside", "I", false)
  | 2 => ("SitDown$Site", "holds", "LSitDown$Holds;", true)
  | 3 => ("SitDown$Site", "men", "LSitDown$Men;", true)
  | 4 => ("SitDown$Site", "works", "LSitDown$Works;", true)
  | 5 => ("SitDown$Site", "texts", "LSitDown$Texts;", true)
  | 6 => ("SitDown$Site", "rumours", "LSitDown$Rumours;", true)
  | 7 => ("SitDown$Site", "lists", "LSitDown$Lists;", true)
  | 8 => ("SitDown$Site", "game", "LSitDown$Game;", true)
  | 9 => ("SitDown$Site", "pages", "[I", true)
  | 10 => ("SitDown$Site", "facts", "[I", true)
  | _ => ("SitDown$Site", "made", "[I", true)
def tyX6 : Nat → FieldType := fun k => match k with
  | 0 => .int
  | 1 => .int
  | 2 => .object "SitDown$Holds"
  | 3 => .object "SitDown$Men"
  | 4 => .object "SitDown$Works"
  | 5 => .object "SitDown$Texts"
  | 6 => .object "SitDown$Rumours"
  | 7 => .object "SitDown$Lists"
  | 8 => .object "SitDown$Game"
  | 9 => .array .int
  | 10 => .array .int
  | _ => .array .int
theorem nmX6 : ∀ a, a < 12 → ∀ b, b < 12 → a ≠ b → (TX6 a).2.1 ≠ (TX6 b).2.1 := by decide +kernel
theorem tyX6_ok : ∀ k, k < 12 → parseFieldDescriptor (TX6 k).2.2.1 = some (tyX6 k) := by decide +kernel
def RX7 : String := "SitDown$Tape"
def TX7 : u_T := fun k => match k with
  | 0 => ("SitDown$Tape", "size", "I", false)
  | 1 => ("SitDown$Tape", "place", "I", false)
  | _ => ("SitDown$Tape", "bytes", "[I", true)
def tyX7 : Nat → FieldType := fun k => match k with
  | 0 => .int
  | 1 => .int
  | _ => .array .int
theorem nmX7 : ∀ a, a < 3 → ∀ b, b < 3 → a ≠ b → (TX7 a).2.1 ≠ (TX7 b).2.1 := by decide +kernel
theorem tyX7_ok : ∀ k, k < 3 → parseFieldDescriptor (TX7 k).2.2.1 = some (tyX7 k) := by decide +kernel
def RX8 : String := "SitDown$Texts"
def TX8 : u_T := fun k => match k with
  | 0 => ("SitDown$Texts", "size", "I", false)
  | 1 => ("SitDown$Texts", "judges", "[I", true)
  | 2 => ("SitDown$Texts", "starts", "[I", true)
  | 3 => ("SitDown$Texts", "ends", "[I", true)
  | 4 => ("SitDown$Texts", "toldHours", "[I", true)
  | 5 => ("SitDown$Texts", "clauses", "[I", true)
  | 6 => ("SitDown$Texts", "saysBar", "[I", true)
  | 7 => ("SitDown$Texts", "words", "[I", true)
  | 8 => ("SitDown$Texts", "tests", "[I", true)
  | 9 => ("SitDown$Texts", "facts", "[I", true)
  | 10 => ("SitDown$Texts", "orders", "[I", true)
  | 11 => ("SitDown$Texts", "numbers", "[I", true)
  | _ => ("SitDown$Texts", "shareHours", "[I", true)
def tyX8 : Nat → FieldType := fun k => match k with
  | 0 => .int
  | 1 => .array .int
  | 2 => .array .int
  | 3 => .array .int
  | 4 => .array .int
  | 5 => .array .int
  | 6 => .array .int
  | 7 => .array .int
  | 8 => .array .int
  | 9 => .array .int
  | 10 => .array .int
  | 11 => .array .int
  | _ => .array .int
theorem nmX8 : ∀ a, a < 13 → ∀ b, b < 13 → a ≠ b → (TX8 a).2.1 ≠ (TX8 b).2.1 := by decide +kernel
theorem tyX8_ok : ∀ k, k < 13 → parseFieldDescriptor (TX8 k).2.2.1 = some (tyX8 k) := by decide +kernel
def RX9 : String := "SitDown$Works"
def TX9 : u_T := fun k => match k with
  | 0 => ("SitDown$Works", "size", "I", false)
  | 1 => ("SitDown$Works", "cars", "I", false)
  | 2 => ("SitDown$Works", "stocks", "[I", true)
  | 3 => ("SitDown$Works", "needs", "[I", true)
  | 4 => ("SitDown$Works", "lacks", "[I", true)
  | _ => ("SitDown$Works", "foreseen", "[I", true)
def tyX9 : Nat → FieldType := fun k => match k with
  | 0 => .int
  | 1 => .int
  | 2 => .array .int
  | 3 => .array .int
  | 4 => .array .int
  | _ => .array .int
theorem nmX9 : ∀ a, a < 6 → ∀ b, b < 6 → a ≠ b → (TX9 a).2.1 ≠ (TX9 b).2.1 := by decide +kernel
theorem tyX9_ok : ∀ k, k < 6 → parseFieldDescriptor (TX9 k).2.2.1 = some (tyX9 k) := by decide +kernel
def RX10 : String := "SitDown"
def TX10 : u_T := fun k => match k with
  | 0 => ("SitDown", "site", "LSitDown$Site;", true)
  | 1 => ("SitDown", "kept", "LSitDown$Site;", true)
  | 2 => ("SitDown", "sheets", "[LSitDown$Sheet;", true)
  | 3 => ("SitDown", "tape", "LSitDown$Tape;", true)
  | 4 => ("SitDown", "findings", "[I", true)
  | _ => ("SitDown", "isKept", "Z", false)
def tyX10 : Nat → FieldType := fun k => match k with
  | 0 => .object "SitDown$Site"
  | 1 => .object "SitDown$Site"
  | 2 => .array (.object "SitDown$Sheet")
  | 3 => .object "SitDown$Tape"
  | 4 => .array .int
  | _ => .boolean
theorem nmX10 : ∀ a, a < 6 → ∀ b, b < 6 → a ≠ b → (TX10 a).2.1 ≠ (TX10 b).2.1 := by decide +kernel
theorem tyX10_ok : ∀ k, k < 6 → parseFieldDescriptor (TX10 k).2.2.1 = some (tyX10 k) := by decide +kernel
def RX11 : String := "SitDownModel"
def TX11 : u_T := fun k => match k with
  | 0 => ("SitDownModel", "d", "[I", true)
  | 1 => ("SitDownModel", "keptRow", "[I", true)
  | 2 => ("SitDownModel", "hasKept", "Z", false)
  | 3 => ("SitDownModel", "tape", "[I", true)
  | 4 => ("SitDownModel", "taped", "I", false)
  | 5 => ("SitDownModel", "answered", "[I", true)
  | 6 => ("SitDownModel", "trial", "[I", true)
  | 7 => ("SitDownModel", "stood", "[I", true)
  | 8 => ("SitDownModel", "lacked", "[I", true)
  | 9 => ("SitDownModel", "letters", "[I", true)
  | 10 => ("SitDownModel", "from", "I", false)
  | 11 => ("SitDownModel", "length", "I", false)
  | 12 => ("SitDownModel", "at", "I", false)
  | 13 => ("SitDownModel", "fault", "I", false)
  | 14 => ("SitDownModel", "facts", "[I", true)
  | 15 => ("SitDownModel", "foundClause", "I", false)
  | 16 => ("SitDownModel", "foundBar", "Z", false)
  | 17 => ("SitDownModel", "whyText", "I", false)
  | 18 => ("SitDownModel", "credits", "[I", true)
  | 19 => ("SitDownModel", "set", "[I", true)
  | 20 => ("SitDownModel", "bits", "[I", true)
  | 21 => ("SitDownModel", "size", "[I", true)
  | 22 => ("SitDownModel", "items", "[I", true)
  | _ => ("SitDownModel", "moved", "[I", true)
def tyX11 : Nat → FieldType := fun k => match k with
  | 0 => .array .int
  | 1 => .array .int
  | 2 => .boolean
  | 3 => .array .int
  | 4 => .int
  | 5 => .array .int
  | 6 => .array .int
  | 7 => .array .int
  | 8 => .array .int
  | 9 => .array .int
  | 10 => .int
  | 11 => .int
  | 12 => .int
  | 13 => .int
  | 14 => .array .int
  | 15 => .int
  | 16 => .boolean
  | 17 => .int
  | 18 => .array .int
  | 19 => .array .int
  | 20 => .array .int
  | 21 => .array .int
  | 22 => .array .int
  | _ => .array .int
theorem nmX11 : ∀ a, a < 24 → ∀ b, b < 24 → a ≠ b → (TX11 a).2.1 ≠ (TX11 b).2.1 := by decide +kernel
theorem tyX11_ok : ∀ k, k < 24 → parseFieldDescriptor (TX11 k).2.2.1 = some (tyX11 k) := by decide +kernel
abbrev sd_cl : List vw_C := [(RX0, TX0, 4), (RX1, TX1, 15), (RX2, TX2, 2), (RX3, TX3, 5), (RX4, TX4, 7), (RX5, TX5, 3), (RX6, TX6, 12), (RX7, TX7, 3), (RX8, TX8, 13), (RX9, TX9, 6), (RX10, TX10, 6), (RX11, TX11, 24)]
