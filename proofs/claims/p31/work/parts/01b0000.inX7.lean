def RX0 : String := "SportsHouse$Competition"
def TX0 : u_T := fun k => match k with
  | 0 => ("SportsHouse$Competition", "number", "I", true)
  | 1 => ("SportsHouse$Competition", "rules", "[I", true)
  | 2 => ("SportsHouse$Competition", "keys", "[I", true)
  | 3 => ("SportsHouse$Competition", "clubs", "[I", true)
  | 4 => ("SportsHouse$Competition", "seat", "[I", true)
  | 5 => ("SportsHouse$Competition", "entered", "I", false)
  | 6 => ("SportsHouse$Competition", "planned", "Z", false)
  | 7 => ("SportsHouse$Competition", "firstMatch", "I", false)
  | _ => ("SportsHouse$Competition", "matchCount", "I", false)
def tyX0 : Nat → FieldType := fun k => match k with
  | 0 => .int
  | 1 => .array .int
  | 2 => .array .int
  | 3 => .array .int
  | 4 => .array .int
  | 5 => .int
  | 6 => .boolean
  | 7 => .int
  | _ => .int
abbrev wsX00 : List Cond := u_ws RX0 TX0 9
theorem nmX0 : ∀ a, a < 9 → ∀ b, b < 9 → a ≠ b → (TX0 a).2.1 ≠ (TX0 b).2.1 := by decide +kernel
theorem tyX0_ok : ∀ k, k < 9 → parseFieldDescriptor (TX0 k).2.2.1 = some (tyX0 k) := by decide +kernel
def RX1 : String := "SportsHouse$Lots"
def TX1 : u_T := fun k => match k with
  | 0 => ("SportsHouse$Lots", "things", "LSportsHouse$Things;", true)
  | 1 => ("SportsHouse$Lots", "groups", "I", false)
  | 2 => ("SportsHouse$Lots", "limit", "I", false)
  | 3 => ("SportsHouse$Lots", "clubCount", "I", false)
  | 4 => ("SportsHouse$Lots", "drawnCount", "I", false)
  | 5 => ("SportsHouse$Lots", "random", "I", false)
  | 6 => ("SportsHouse$Lots", "total", "I", false)
  | 7 => ("SportsHouse$Lots", "fresh", "Z", false)
  | 8 => ("SportsHouse$Lots", "potOf", "[I", true)
  | 9 => ("SportsHouse$Lots", "groupOf", "[I", true)
  | 10 => ("SportsHouse$Lots", "potSize", "[I", true)
  | 11 => ("SportsHouse$Lots", "with", "[I", true)
  | 12 => ("SportsHouse$Lots", "waiting", "[I", true)
  | 13 => ("SportsHouse$Lots", "waitingCount", "I", false)
  | 14 => ("SportsHouse$Lots", "taken", "[I", true)
  | _ => ("SportsHouse$Lots", "countrymen", "[I", true)
def tyX1 : Nat → FieldType := fun k => match k with
  | 0 => .object "SportsHouse$Things"
  | 1 => .int
  | 2 => .int
  | 3 => .int
  | 4 => .int
  | 5 => .int
  | 6 => .int
  | 7 => .boolean
  | 8 => .array .int
  | 9 => .array .int
  | 10 => .array .int
  | 11 => .array .int
  | 12 => .array .int
  | 13 => .int
  | 14 => .array .int
  | _ => .array .int
abbrev wsX10 : List Cond := u_ws RX1 TX1 16
theorem nmX1 : ∀ a, a < 16 → ∀ b, b < 16 → a ≠ b → (TX1 a).2.1 ≠ (TX1 b).2.1 := by decide +kernel
theorem tyX1_ok : ∀ k, k < 16 → parseFieldDescriptor (TX1 k).2.2.1 = some (tyX1 k) := by decide +kernel
def RX2 : String := "SportsHouse$Match"
def TX2 : u_T := fun k => match k with
  | 0 => ("SportsHouse$Match", "contest", "LSportsHouse$Competition;", true)
  | 1 => ("SportsHouse$Match", "number", "I", true)
  | 2 => ("SportsHouse$Match", "round", "I", true)
  | 3 => ("SportsHouse$Match", "home", "I", true)
  | 4 => ("SportsHouse$Match", "away", "I", true)
  | 5 => ("SportsHouse$Match", "date", "I", false)
  | 6 => ("SportsHouse$Match", "absent", "I", false)
  | 7 => ("SportsHouse$Match", "referee", "I", false)
  | 8 => ("SportsHouse$Match", "sheet", "[I", true)
  | 9 => ("SportsHouse$Match", "listed", "[I", true)
  | _ => ("SportsHouse$Match", "play", "LSportsHouse$Play;", false)
def tyX2 : Nat → FieldType := fun k => match k with
  | 0 => .object "SportsHouse$Competition"
  | 1 => .int
  | 2 => .int
  | 3 => .int
  | 4 => .int
  | 5 => .int
  | 6 => .int
  | 7 => .int
  | 8 => .array .int
  | 9 => .array .int
  | _ => .object "SportsHouse$Play"
abbrev wsX20 : List Cond := u_ws RX2 TX2 11
theorem nmX2 : ∀ a, a < 11 → ∀ b, b < 11 → a ≠ b → (TX2 a).2.1 ≠ (TX2 b).2.1 := by decide +kernel
theorem tyX2_ok : ∀ k, k < 11 → parseFieldDescriptor (TX2 k).2.2.1 = some (tyX2 k) := by decide +kernel
def RX3 : String := "SportsHouse$Play"
def TX3 : u_T := fun k => match k with
  | 0 => ("SportsHouse$Play", "rules", "[I", true)
  | 1 => ("SportsHouse$Play", "sheet", "[I", true)
  | 2 => ("SportsHouse$Play", "listed", "[I", true)
  | 3 => ("SportsHouse$Play", "ended", "Z", false)
  | 4 => ("SportsHouse$Play", "phase", "I", false)
  | 5 => ("SportsHouse$Play", "server", "I", false)
  | 6 => ("SportsHouse$Play", "points", "[I", true)
  | 7 => ("SportsHouse$Play", "games", "[I", true)
  | 8 => ("SportsHouse$Play", "score", "[I", true)
  | 9 => ("SportsHouse$Play", "changes", "[I", true)
  | 10 => ("SportsHouse$Play", "fielded", "[I", true)
  | 11 => ("SportsHouse$Play", "field", "[I", true)
  | 12 => ("SportsHouse$Play", "role", "[I", true)
  | 13 => ("SportsHouse$Play", "yellows", "[I", true)
  | 14 => ("SportsHouse$Play", "log", "[I", false)
  | 15 => ("SportsHouse$Play", "logged", "I", false)
  | 16 => ("SportsHouse$Play", "aside", "[I", false)
  | _ => ("SportsHouse$Play", "asides", "I", false)
def tyX3 : Nat → FieldType := fun k => match k with
  | 0 => .array .int
  | 1 => .array .int
  | 2 => .array .int
  | 3 => .boolean
  | 4 => .int
  | 5 => .int
  | 6 => .array .int
  | 7 => .array .int
  | 8 => .array .int
  | 9 => .array .int
  | 10 => .array .int
  | 11 => .array .int
  | 12 => .array .int
  | 13 => .array .int
  | 14 => .array .int
  | 15 => .int
  | 16 => .array .int
  | _ => .int
abbrev wsX30 : List Cond := u_ws RX3 TX3 18
theorem nmX3 : ∀ a, a < 18 → ∀ b, b < 18 → a ≠ b → (TX3 a).2.1 ≠ (TX3 b).2.1 := by decide +kernel
theorem tyX3_ok : ∀ k, k < 18 → parseFieldDescriptor (TX3 k).2.2.1 = some (tyX3 k) := by decide +kernel
def RX4 : String := "SportsHouse$Referees"
def TX4 : u_T := fun k => match k with
  | 0 => ("SportsHouse$Referees", "season", "LSportsHouse$Season;", true)
  | 1 => ("SportsHouse$Referees", "things", "LSportsHouse$Things;", true)
  | 2 => ("SportsHouse$Referees", "toServe", "[I", true)
  | 3 => ("SportsHouse$Referees", "serveCount", "I", false)
  | _ => ("SportsHouse$Referees", "best", "[I", false)
def tyX4 : Nat → FieldType := fun k => match k with
  | 0 => .object "SportsHouse$Season"
  | 1 => .object "SportsHouse$Things"
  | 2 => .array .int
  | 3 => .int
  | _ => .array .int
abbrev wsX40 : List Cond := u_ws RX4 TX4 5
theorem nmX4 : ∀ a, a < 5 → ∀ b, b < 5 → a ≠ b → (TX4 a).2.1 ≠ (TX4 b).2.1 := by decide +kernel
theorem tyX4_ok : ∀ k, k < 5 → parseFieldDescriptor (TX4 k).2.2.1 = some (tyX4 k) := by decide +kernel
def RX5 : String := "SportsHouse$RuleText"
def TX5 : u_T := fun k => match k with
  | 0 => ("SportsHouse$RuleText", "bytes", "[I", true)
  | 1 => ("SportsHouse$RuleText", "length", "I", false)
  | 2 => ("SportsHouse$RuleText", "faultKind", "I", false)
  | 3 => ("SportsHouse$RuleText", "faultAt", "I", false)
  | 4 => ("SportsHouse$RuleText", "values", "[I", true)
  | 5 => ("SportsHouse$RuleText", "keys", "[I", true)
  | 6 => ("SportsHouse$RuleText", "toldBits", "I", false)
  | 7 => ("SportsHouse$RuleText", "tokenKind", "I", false)
  | 8 => ("SportsHouse$RuleText", "tokenStart", "I", false)
  | _ => ("SportsHouse$RuleText", "tokenEnd", "I", false)
def tyX5 : Nat → FieldType := fun k => match k with
  | 0 => .array .int
  | 1 => .int
  | 2 => .int
  | 3 => .int
  | 4 => .array .int
  | 5 => .array .int
  | 6 => .int
  | 7 => .int
  | 8 => .int
  | _ => .int
abbrev wsX50 : List Cond := u_ws RX5 TX5 10
theorem nmX5 : ∀ a, a < 10 → ∀ b, b < 10 → a ≠ b → (TX5 a).2.1 ≠ (TX5 b).2.1 := by decide +kernel
theorem tyX5_ok : ∀ k, k < 10 → parseFieldDescriptor (TX5 k).2.2.1 = some (tyX5 k) := by decide +kernel
def RX6 : String := "SportsHouse$Season"
def TX6 : u_T := fun k => match k with
  | 0 => ("SportsHouse$Season", "things", "LSportsHouse$Things;", true)
  | 1 => ("SportsHouse$Season", "competitions", "[LSportsHouse$Competition;", true)
  | 2 => ("SportsHouse$Season", "competitionCount", "I", false)
  | 3 => ("SportsHouse$Season", "matches", "[LSportsHouse$Match;", true)
  | 4 => ("SportsHouse$Season", "matchCount", "I", false)
  | 5 => ("SportsHouse$Season", "rowCount", "I", false)
  | 6 => ("SportsHouse$Season", "deductions", "I", false)
  | 7 => ("SportsHouse$Season", "deductedIn", "[I", true)
  | 8 => ("SportsHouse$Season", "deductedFrom", "[I", true)
  | 9 => ("SportsHouse$Season", "deductedPoints", "[I", true)
  | 10 => ("SportsHouse$Season", "deductedOn", "[I", true)
  | 11 => ("SportsHouse$Season", "movedMatches", "[I", true)
  | 12 => ("SportsHouse$Season", "movedCount", "I", false)
  | 13 => ("SportsHouse$Season", "listed", "[I", true)
  | 14 => ("SportsHouse$Season", "datesBefore", "[I", true)
  | _ => ("SportsHouse$Season", "blocked", "[I", true)
def tyX6 : Nat → FieldType := fun k => match k with
  | 0 => .object "SportsHouse$Things"
  | 1 => .array (.object "SportsHouse$Competition")
  | 2 => .int
  | 3 => .array (.object "SportsHouse$Match")
  | 4 => .int
  | 5 => .int
  | 6 => .int
  | 7 => .array .int
  | 8 => .array .int
  | 9 => .array .int
  | 10 => .array .int
  | 11 => .array .int
  | 12 => .int
  | 13 => .array .int
  | 14 => .array .int
  | _ => .array .int
abbrev wsX60 : List Cond := u_ws RX6 TX6 16
theorem nmX6 : ∀ a, a < 16 → ∀ b, b < 16 → a ≠ b → (TX6 a).2.1 ≠ (TX6 b).2.1 := by decide +kernel
theorem tyX6_ok : ∀ k, k < 16 → parseFieldDescriptor (TX6 k).2.2.1 = some (tyX6 k) := by decide +kernel
def RX7 : String := "SportsHouse$Standings"
def TX7 : u_T := fun k => match k with
  | 0 => ("SportsHouse$Standings", "season", "LSportsHouse$Season;", true)
  | 1 => ("SportsHouse$Standings", "contest", "LSportsHouse$Competition;", false)
  | 2 => ("SportsHouse$Standings", "lines", "[I", true)
  | 3 => ("SportsHouse$Standings", "away", "[I", true)
  | 4 => ("SportsHouse$Standings", "fair", "[I", true)
  | 5 => ("SportsHouse$Standings", "headPoints", "[I", true)
  | 6 => ("SportsHouse$Standings", "headScored", "[I", true)
  | 7 => ("SportsHouse$Standings", "order", "[I", true)
  | 8 => ("SportsHouse$Standings", "partedBy", "[I", true)
  | 9 => ("SportsHouse$Standings", "worth", "[J", true)
  | 10 => ("SportsHouse$Standings", "waitingFrom", "[I", true)
  | 11 => ("SportsHouse$Standings", "waitingTo", "[I", true)
  | 12 => ("SportsHouse$Standings", "waitingKey", "[I", true)
  | _ => ("SportsHouse$Standings", "waiting", "I", false)
def tyX7 : Nat → FieldType := fun k => match k with
  | 0 => .object "SportsHouse$Season"
  | 1 => .object "SportsHouse$Competition"
  | 2 => .array .int
  | 3 => .array .int
  | 4 => .array .int
  | 5 => .array .int
  | 6 => .array .int
  | 7 => .array .int
  | 8 => .array .int
  | 9 => .array .long
  | 10 => .array .int
  | 11 => .array .int
  | 12 => .array .int
  | _ => .int
abbrev wsX70 : List Cond := u_ws RX7 TX7 14
theorem nmX7 : ∀ a, a < 14 → ∀ b, b < 14 → a ≠ b → (TX7 a).2.1 ≠ (TX7 b).2.1 := by decide +kernel
theorem tyX7_ok : ∀ k, k < 14 → parseFieldDescriptor (TX7 k).2.2.1 = some (tyX7 k) := by decide +kernel
def RX8 : String := "SportsHouse$Things"
def TX8 : u_T := fun k => match k with
  | 0 => ("SportsHouse$Things", "stadium", "[I", true)
  | 1 => ("SportsHouse$Things", "country", "[I", true)
  | 2 => ("SportsHouse$Things", "clubs", "I", false)
  | 3 => ("SportsHouse$Things", "persons", "I", false)
  | 4 => ("SportsHouse$Things", "firstSpan", "[I", true)
  | 5 => ("SportsHouse$Things", "spans", "I", false)
  | 6 => ("SportsHouse$Things", "spanClub", "[I", true)
  | 7 => ("SportsHouse$Things", "spanFrom", "[I", true)
  | 8 => ("SportsHouse$Things", "spanTo", "[I", true)
  | 9 => ("SportsHouse$Things", "nextSpan", "[I", true)
  | 10 => ("SportsHouse$Things", "officialHome", "[I", true)
  | 11 => ("SportsHouse$Things", "officialCountry", "[I", true)
  | 12 => ("SportsHouse$Things", "officials", "I", false)
  | _ => ("SportsHouse$Things", "today", "I", false)
def tyX8 : Nat → FieldType := fun k => match k with
  | 0 => .array .int
  | 1 => .array .int
  | 2 => .int
  | 3 => .int
  | 4 => .array .int
  | 5 => .int
  | 6 => .array .int
  | 7 => .array .int
  | 8 => .array .int
  | 9 => .array .int
  | 10 => .array .int
  | 11 => .array .int
  | 12 => .int
  | _ => .int
abbrev wsX80 : List Cond := u_ws RX8 TX8 14
theorem nmX8 : ∀ a, a < 14 → ∀ b, b < 14 → a ≠ b → (TX8 a).2.1 ≠ (TX8 b).2.1 := by decide +kernel
theorem tyX8_ok : ∀ k, k < 14 → parseFieldDescriptor (TX8 k).2.2.1 = some (tyX8 k) := by decide +kernel
def RX9 : String := "SportsHouse$Title"
def TX9 : u_T := fun k => match k with
  | 0 => ("SportsHouse$Title", "season", "LSportsHouse$Season;", true)
  | 1 => ("SportsHouse$Title", "standings", "LSportsHouse$Standings;", true)
  | 2 => ("SportsHouse$Title", "answer", "I", false)
  | 3 => ("SportsHouse$Title", "cutBits", "I", false)
  | 4 => ("SportsHouse$Title", "results", "[I", true)
  | 5 => ("SportsHouse$Title", "contest", "LSportsHouse$Competition;", false)
  | 6 => ("SportsHouse$Title", "best", "I", false)
  | 7 => ("SportsHouse$Title", "points", "[I", true)
  | 8 => ("SportsHouse$Title", "open", "[I", true)
  | 9 => ("SportsHouse$Title", "openCount", "I", false)
  | 10 => ("SportsHouse$Title", "homeParts", "[I", true)
  | 11 => ("SportsHouse$Title", "cap", "[I", true)
  | 12 => ("SportsHouse$Title", "load", "[I", true)
  | 13 => ("SportsHouse$Title", "via", "[I", true)
  | 14 => ("SportsHouse$Title", "queue", "[I", true)
  | _ => ("SportsHouse$Title", "slack", "[I", false)
def tyX9 : Nat → FieldType := fun k => match k with
  | 0 => .object "SportsHouse$Season"
  | 1 => .object "SportsHouse$Standings"
  | 2 => .int
  | 3 => .int
  | 4 => .array .int
  | 5 => .object "SportsHouse$Competition"
  | 6 => .int
  | 7 => .array .int
  | 8 => .array .int
  | 9 => .int
  | 10 => .array .int
  | 11 => .array .int
  | 12 => .array .int
  | 13 => .array .int
  | 14 => .array .int
  | _ => .array .int
abbrev wsX90 : List Cond := u_ws RX9 TX9 16
theorem nmX9 : ∀ a, a < 16 → ∀ b, b < 16 → a ≠ b → (TX9 a).2.1 ≠ (TX9 b).2.1 := by decide +kernel
theorem tyX9_ok : ∀ k, k < 16 → parseFieldDescriptor (TX9 k).2.2.1 = some (tyX9 k) := by decide +kernel
def RX10 : String := "SportsHouse"
def TX10 : u_T := fun k => match k with
  | 0 => ("SportsHouse", "text", "LSportsHouse$RuleText;", true)
  | 1 => ("SportsHouse", "things", "LSportsHouse$Things;", true)
  | 2 => ("SportsHouse", "season", "LSportsHouse$Season;", true)
  | 3 => ("SportsHouse", "standings", "LSportsHouse$Standings;", true)
  | 4 => ("SportsHouse", "title", "LSportsHouse$Title;", true)
  | 5 => ("SportsHouse", "lots", "LSportsHouse$Lots;", true)
  | _ => ("SportsHouse", "referees", "LSportsHouse$Referees;", true)
def tyX10 : Nat → FieldType := fun k => match k with
  | 0 => .object "SportsHouse$RuleText"
  | 1 => .object "SportsHouse$Things"
  | 2 => .object "SportsHouse$Season"
  | 3 => .object "SportsHouse$Standings"
  | 4 => .object "SportsHouse$Title"
  | 5 => .object "SportsHouse$Lots"
  | _ => .object "SportsHouse$Referees"
abbrev wsX100 : List Cond := u_ws RX10 TX10 7
theorem nmX10 : ∀ a, a < 7 → ∀ b, b < 7 → a ≠ b → (TX10 a).2.1 ≠ (TX10 b).2.1 := by decide +kernel
theorem tyX10_ok : ∀ k, k < 7 → parseFieldDescriptor (TX10 k).2.2.1 = some (tyX10 k) := by decide +kernel
def RX11 : String := "SportsHouseModel"
def LX11 : List (List (String × String × String × Bool)) := [[("SportsHouseModel", "text", "[I", true), ("SportsHouseModel", "length", "I", false), ("SportsHouseModel", "faultAt", "I", false), ("SportsHouseModel", "today", "I", false), ("SportsHouseModel", "fresh", "[I", true), ("SportsHouseModel", "rules", "[I", true), ("SportsHouseModel", "competitions", "I", false), ("SportsHouseModel", "entrants", "[I", true)], [("SportsHouseModel", "entered", "[I", true), ("SportsHouseModel", "planned", "[Z", true), ("SportsHouseModel", "firstOf", "[I", true), ("SportsHouseModel", "manyOf", "[I", true), ("SportsHouseModel", "clubs", "I", false), ("SportsHouseModel", "stadiums", "[I", true), ("SportsHouseModel", "countries", "[I", true), ("SportsHouseModel", "persons", "I", false)], [("SportsHouseModel", "spans", "I", false), ("SportsHouseModel", "spanPerson", "[I", true), ("SportsHouseModel", "spanClub", "[I", true), ("SportsHouseModel", "spanFrom", "[I", true), ("SportsHouseModel", "spanTo", "[I", true), ("SportsHouseModel", "officials", "I", false), ("SportsHouseModel", "homes", "[I", true), ("SportsHouseModel", "officialCountries", "[I", true)], [("SportsHouseModel", "deducted", "I", false), ("SportsHouseModel", "deductComp", "[I", true), ("SportsHouseModel", "deductClub", "[I", true), ("SportsHouseModel", "deductPoints", "[I", true), ("SportsHouseModel", "deductDay", "[I", true), ("SportsHouseModel", "matches", "I", false), ("SportsHouseModel", "mComp", "[I", true), ("SportsHouseModel", "mRound", "[I", true)], [("SportsHouseModel", "mHome", "[I", true), ("SportsHouseModel", "mAway", "[I", true), ("SportsHouseModel", "mDay", "[I", true), ("SportsHouseModel", "mWhat", "[I", true), ("SportsHouseModel", "mScore0", "[I", true), ("SportsHouseModel", "mScore1", "[I", true), ("SportsHouseModel", "mOfficial", "[I", true), ("SportsHouseModel", "sheetMany", "[I", true)], [("SportsHouseModel", "sheetPerson", "[I", true), ("SportsHouseModel", "sheetStands", "[I", true), ("SportsHouseModel", "sheetYellows", "[I", true), ("SportsHouseModel", "sheetSent", "[Z", true), ("SportsHouseModel", "fieldMany", "[I", true), ("SportsHouseModel", "fieldSlot", "[I", true), ("SportsHouseModel", "live", "[I", true), ("SportsHouseModel", "rowsMade", "I", false)], [("SportsHouseModel", "rKind", "[I", true), ("SportsHouseModel", "rSide", "[I", true), ("SportsHouseModel", "rPerson", "[I", true), ("SportsHouseModel", "rOther", "[I", true), ("SportsHouseModel", "rNext", "[I", true), ("SportsHouseModel", "rowFirst", "[I", true), ("SportsHouseModel", "rowMany", "[I", true), ("SportsHouseModel", "asideFirst", "[I", true)], [("SportsHouseModel", "asideMany", "[I", true), ("SportsHouseModel", "at", "I", false), ("SportsHouseModel", "tKind", "I", false), ("SportsHouseModel", "tFrom", "I", false), ("SportsHouseModel", "tTo", "I", false), ("SportsHouseModel", "tValue", "I", false), ("SportsHouseModel", "badNumber", "I", false), ("SportsHouseModel", "badAt", "I", false)], [("SportsHouseModel", "statementWords", "[I", true), ("SportsHouseModel", "sportWords", "[I", true), ("SportsHouseModel", "keyWords", "[I", true), ("SportsHouseModel", "least", "[I", true), ("SportsHouseModel", "greatest", "[I", true), ("SportsHouseModel", "toldAlready", "[Z", true), ("SportsHouseModel", "keyTold", "[Z", true), ("SportsHouseModel", "gone", "[I", true)], [("SportsHouseModel", "wasDay", "[I", true), ("SportsHouseModel", "goneMany", "I", false), ("SportsHouseModel", "movedRow", "[I", true), ("SportsHouseModel", "movedMany", "I", false), ("SportsHouseModel", "told", "[I", true), ("SportsHouseModel", "standingClub", "[I", true), ("SportsHouseModel", "partedBy", "[I", true), ("SportsHouseModel", "standingMany", "I", false)], [("SportsHouseModel", "supposes", "Z", false), ("SportsHouseModel", "supposed", "[I", true), ("SportsHouseModel", "result0", "I", false), ("SportsHouseModel", "result1", "I", false), ("SportsHouseModel", "says", "[I", true), ("SportsHouseModel", "groupBits", "I", false), ("SportsHouseModel", "pile", "[I", true), ("SportsHouseModel", "piled", "I", false)], [("SportsHouseModel", "witnessOf", "I", false), ("SportsHouseModel", "witnessed", "[I", true), ("SportsHouseModel", "cutBits", "I", false), ("SportsHouseModel", "points", "[I", true), ("SportsHouseModel", "leftOf", "[I", true), ("SportsHouseModel", "spare", "[I", true), ("SportsHouseModel", "between", "[I", true), ("SportsHouseModel", "best", "I", false)], [("SportsHouseModel", "slack", "[I", true), ("SportsHouseModel", "open", "[I", true), ("SportsHouseModel", "isDraw", "Z", false), ("SportsHouseModel", "groups", "I", false), ("SportsHouseModel", "limit", "I", false), ("SportsHouseModel", "potOf", "[I", true), ("SportsHouseModel", "groupOf", "[I", true), ("SportsHouseModel", "seed", "I", false)], [("SportsHouseModel", "trying", "[I", true), ("SportsHouseModel", "tried", "[I", true), ("SportsHouseModel", "dayMatch", "[I", true), ("SportsHouseModel", "dayMany", "I", false), ("SportsHouseModel", "holds", "[I", true), ("SportsHouseModel", "far", "[I", true), ("SportsHouseModel", "comesBy", "[I", true), ("SportsHouseModel", "hasOne", "[I", true)], [("SportsHouseModel", "foundMany", "I", false), ("SportsHouseModel", "foundSum", "I", false)]]
def TX11 : u_T := fun k => (LX11.getD (k / 8) []).getD (k % 8) ("SportsHouseModel", "foundSum", "I", false)
def MX11 : List (List FieldType) := [[.array .int, .int, .int, .int, .array .int, .array .int, .int, .array .int], [.array .int, .array .boolean, .array .int, .array .int, .int, .array .int, .array .int, .int], [.int, .array .int, .array .int, .array .int, .array .int, .int, .array .int, .array .int], [.int, .array .int, .array .int, .array .int, .array .int, .int, .array .int, .array .int], [.array .int, .array .int, .array .int, .array .int, .array .int, .array .int, .array .int, .array .int], [.array .int, .array .int, .array .int, .array .boolean, .array .int, .array .int, .array .int, .int], [.array .int, .array .int, .array .int, .array .int, .array .int, .array .int, .array .int, .array .int], [.array .int, .int, .int, .int, .int, .int, .int, .int], [.array .int, .array .int, .array .int, .array .int, .array .int, .array .boolean, .array .boolean, .array .int], [.array .int, .int, .array .int, .int, .array .int, .array .int, .array .int, .int], [.boolean, .array .int, .int, .int, .array .int, .int, .array .int, .int], [.int, .array .int, .int, .array .int, .array .int, .array .int, .array .int, .int], [.array .int, .array .int, .boolean, .int, .int, .array .int, .array .int, .int], [.array .int, .array .int, .array .int, .int, .array .int, .array .int, .array .int, .array .int], [.int, .int]]
def tyX11 : Nat → FieldType := fun k => (MX11.getD (k / 8) []).getD (k % 8) .int
abbrev wsX110 : List Cond := u_ws RX11 TX11 114
def sqh_ (s : String) : Nat := s.toByteArray.data.toList.foldl (fun h b => h * 256 + b.toNat) 0
def HX11 : List (List Nat) := [[1952807028, 119182899770472, 28817604583113076, 500085055865, 440005915496, 491596309875, 30773723549582938732778974835, 7308907279878616179], [28550418845033828, 31644363111949668, 28826387908677478, 120265232699238, 427021394547, 8319381495554076019, 1834259110254145529203, 31636739628953203], [495806672499, 545145201503530428624750, 8318255637958784354, 8318255638009507693, 126926508151919, 2054967293096944036979, 448546039155, 37907455735603011591321731092985854649715], [7234298831783093604, 474107008239736252755312, 474107008239736252560738, 31071076891999369354156078195, 1851980500936469799289, 30787924973348211, 469282811248, 120200824712804], [469366697317, 469249778041, 1833197945, 469617893748, 30772458998097200, 30772458998097201, 2016416477013787369836, 2128898098779379560057], [139519465801608734629392238, 139519465801612097303241843, 35716983245214369314027566963, 2128898098779480485492, 1889162491043055234681, 1889162491043156619124, 1818850917, 8245940779841840229], [490891472484, 491025687653, 32176543987101550, 125685580981618, 490941544564, 8245940587039191924, 32210705535037049, 460198518713056928887668], [1797650463722995543673, 24948, 499481407076, 499398111085, 7623791, 127914350507365, 1814798739609139438962, 422540755316], [2341697732031921526464468223157363, 545146211475269105116275, 7738724951144948851, 465557353332, 7454131802490631028, 140761577227429991378150521, 30229394290076772, 1735356005], [131260429394297, 7453297289690443385, 7885651650395926391, 2018726822501272350329, 1953459300, 35731471630456102017391424866, 8097879449231704697, 35731471630456102017558474361], [8319679514845341043, 8319679514845341028, 32199693910701104, 32199693910701105, 1935767923, 1908260578159833478259, 1885957221, 482805048676], [2202761364624725200742, 2202761364624725206372, 27995164885218419, 123623812527219, 119182766395238, 495806673509, 27696098611389806, 1650815860], [495739560811, 1869636974, 115943790502263, 113741193900147, 465625246068, 482906230630, 29117745638428518, 1936024932], [128035012046439, 500135716196, 7233195849788187496, 28254671288233593, 448545973363, 6709618, 27988538338525817, 114767755701861], [1889599342405933428345, 7381247431273575789]]
def hqX11 (k : Nat) : Nat := (HX11.getD (k / 8) []).getD (k % 8) 0
theorem hqX11_k : ∀ k, k < 114 → sqh_ (TX11 k).2.1 = hqX11 k := by decide +kernel
theorem hqX11_i : ∀ a, a < 114 → ∀ b, b < 114 → a ≠ b → hqX11 a ≠ hqX11 b := by decide +kernel
theorem nmX11 : ∀ a, a < 114 → ∀ b, b < 114 → a ≠ b → (TX11 a).2.1 ≠ (TX11 b).2.1 := fun a ha b hb hn e => hqX11_i a ha b hb hn (((hqX11_k a ha).symm.trans (congrArg sqh_ e)).trans (hqX11_k b hb))
theorem tyX11_ok : ∀ k, k < 114 → parseFieldDescriptor (TX11 k).2.2.1 = some (tyX11 k) := by decide +kernel
def RL : String := "SportsHouseLaw"
def RJ7 : String := "java/util/Arrays"
abbrev vwCl : List vw_C := [(RX0, TX0, 9), (RX1, TX1, 16), (RX2, TX2, 11), (RX3, TX3, 18), (RX4, TX4, 5), (RX5, TX5, 10), (RX6, TX6, 16), (RX7, TX7, 14), (RX8, TX8, 14), (RX9, TX9, 16), (RX10, TX10, 7), (RX11, TX11, 114)]
/-- the words that go on holding -/
def lw_g : List Cond := lw_tbl.filter goodWord
theorem lw_at {w : Cond} (i : Nat) (h : tables_1[i]? = some w) (hg : goodWord w = true) : w ∈ lw_g := List.mem_filter.mpr ⟨List.mem_append_right _ (List.mem_of_getElem? h), hg⟩
theorem lwq_1 {w : Cond} (h : w ∈ tables_1_1) (hg : goodWord w = true) : w ∈ lw_g := List.mem_filter.mpr ⟨List.mem_append_right _ (lt_b1 h), hg⟩
theorem lwq_2 {w : Cond} (h : w ∈ tables_1_2) (hg : goodWord w = true) : w ∈ lw_g := List.mem_filter.mpr ⟨List.mem_append_right _ (lt_b2 h), hg⟩
theorem lwq_3 {w : Cond} (h : w ∈ tables_1_3) (hg : goodWord w = true) : w ∈ lw_g := List.mem_filter.mpr ⟨List.mem_append_right _ (lt_b3 h), hg⟩
theorem lwq_4 {w : Cond} (h : w ∈ tables_1_4) (hg : goodWord w = true) : w ∈ lw_g := List.mem_filter.mpr ⟨List.mem_append_right _ (lt_b4 h), hg⟩
theorem lwq_5 {w : Cond} (h : w ∈ tables_1_5) (hg : goodWord w = true) : w ∈ lw_g := List.mem_filter.mpr ⟨List.mem_append_right _ (lt_b5 h), hg⟩
theorem lwq_6 {w : Cond} (h : w ∈ tables_1_6) (hg : goodWord w = true) : w ∈ lw_g := List.mem_filter.mpr ⟨List.mem_append_right _ (lt_b6 h), hg⟩
theorem lwq_7 {w : Cond} (h : w ∈ tables_1_7) (hg : goodWord w = true) : w ∈ lw_g := List.mem_filter.mpr ⟨List.mem_append_right _ (lt_b7 h), hg⟩
theorem lwq_8 {w : Cond} (h : w ∈ tables_1_8) (hg : goodWord w = true) : w ∈ lw_g := List.mem_filter.mpr ⟨List.mem_append_right _ (lt_b8 h), hg⟩
theorem lwq_9 {w : Cond} (h : w ∈ tables_1_9) (hg : goodWord w = true) : w ∈ lw_g := List.mem_filter.mpr ⟨List.mem_append_right _ (lt_b9 h), hg⟩
theorem lwq_10 {w : Cond} (h : w ∈ tables_1_10) (hg : goodWord w = true) : w ∈ lw_g := List.mem_filter.mpr ⟨List.mem_append_right _ (lt_b10 h), hg⟩
theorem lw_sub2 {L : List Cond} (hL : ∀ w ∈ L, w ∈ tables_1) (ws : List Cond) (ps : List Nat) (hp : ws = ps.filterMap (fun i => L[i]?)) (hg : ws.all goodWord = true) : ∀ w ∈ ws, w ∈ lw_g := by
  intro w hw
  have h1 := List.all_eq_true.mp hg w hw
  rw [hp] at hw
  obtain ⟨i, -, hi⟩ := List.mem_filterMap.mp hw
  exact List.mem_filter.mpr ⟨List.mem_append_right _ (hL w (List.mem_of_getElem? hi)), h1⟩
theorem lw_any {w : Cond} (i : Nat) (h : tables_1[i]? = some w) : w ∈ lw_tbl := List.mem_append_right _ (List.mem_of_getElem? h)
theorem lw_sel (i : Nat) {q : MethodName × Nat} (h : lw_privs[i]? = some q) : Cond.selects q.1.cls q.1 q.1 ∈ lw_g := List.mem_filter.mpr ⟨List.mem_append_left _ (List.mem_map.mpr ⟨q, List.mem_of_getElem? h, rfl⟩), rfl⟩
theorem lw_good : ∀ w ∈ lw_g, (w.onTables && w.keeps) = true ∨ ∃ ty, w = .arrayClass ty := fun w h => good_of_word (List.mem_filter.mp h).2
/-- words of another kind that the methods need -/
def ex_E (U : State) : Prop := va_AO "SportsHouse$Competition" U ∧ va_AO "SportsHouse$Match" U ∧ va_Nw (.castable "[I" "java/lang/Cloneable") U ∧ va_Nw (.methodLinkNest "SportsHouse" 11 ⟨"SportsHouse$RuleText", "<init>", "()V"⟩ "SportsHouse") U ∧ va_Nw (.methodLinkNest "SportsHouse" 18 ⟨"SportsHouse$Things", "<init>", "()V"⟩ "SportsHouse") U ∧ va_Nw (.methodLinkNest "SportsHouse$Play" 89 ⟨"SportsHouse", "isSide", "(I)Z"⟩ "SportsHouse") U
theorem ex_warm {s U : State} (hW : s.WarmedH U.vm) (h : ex_E s) : ex_E U := ⟨h.1.moved hW.alike, h.2.1.moved hW.alike, h.2.2.1.warmC hW, h.2.2.2.1.warmM hW, h.2.2.2.2.1.warmM hW, h.2.2.2.2.2.warmM hW⟩
theorem ex_same {s U : State} (hW : s.vm = U.vm) (h : ex_E s) : ex_E U := ⟨h.1.moved (by rw [hW]; exact Vm.Alike.refl _), h.2.1.moved (by rw [hW]; exact Vm.Alike.refl _), h.2.2.1.same rfl hW, h.2.2.2.1.same rfl hW, h.2.2.2.2.1.same rfl hW, h.2.2.2.2.2.same rfl hW⟩
theorem inX0 : ∀ w ∈ wsX00, w ∈ lw_g := lw_sub2 (L := tables_1_3) (fun _ h => lt_b3 h) _ [114, 116, 118, 120, 122, 124, 126, 128, 130] (by decide +kernel) (by decide +kernel)
theorem inX1 : ∀ w ∈ wsX10, w ∈ lw_g := lw_sub2 (L := tables_1_2) (fun _ h => lt_b2 h) _ [110, 112, 114, 116, 118, 120, 122, 124, 126, 128, 130, 132, 134, 136, 138, 140] (by decide +kernel) (by decide +kernel)
theorem inX2 : ∀ w ∈ wsX20, w ∈ lw_g := lw_sub2 (L := tables_1_4) (fun _ h => lt_b4 h) _ [26, 28, 30, 32, 34, 36, 38, 40, 42, 44, 46] (by decide +kernel) (by decide +kernel)
theorem inX3 : ∀ w ∈ wsX30, w ∈ lw_g := lw_sub2 (L := (tables_1_4 ++ tables_1_5)) (fun _ h => (List.mem_append.mp h).elim lt_b4 lt_b5) _ [217, 219, 221, 223, 225, 227, 229, 231, 233, 235, 237, 239, 241, 243, 245, 247, 249, 251] (by decide +kernel) (by decide +kernel)
theorem inX4 : ∀ w ∈ wsX40, w ∈ lw_g := lw_sub2 (L := tables_1_2) (fun _ h => lt_b2 h) _ [154, 156, 158, 160, 162] (by decide +kernel) (by decide +kernel)
theorem inX5 : ∀ w ∈ wsX50, w ∈ lw_g := lw_sub2 (L := tables_1_1) (fun _ h => lt_b1 h) _ [51, 53, 55, 57, 59, 61, 63, 65, 67, 69] (by decide +kernel) (by decide +kernel)
theorem inX6 : ∀ w ∈ wsX60, w ∈ lw_g := lw_sub2 (L := tables_1_1) (fun _ h => lt_b1 h) _ [172, 174, 176, 178, 180, 182, 184, 186, 188, 190, 192, 194, 196, 198, 200, 202] (by decide +kernel) (by decide +kernel)
theorem inX7 : ∀ w ∈ wsX70, w ∈ lw_g := lw_sub2 (L := (tables_1_1 ++ tables_1_2)) (fun _ h => (List.mem_append.mp h).elim lt_b1 lt_b2) _ [229, 231, 233, 235, 237, 239, 241, 243, 245, 247, 249, 251, 253, 255] (by decide +kernel) (by decide +kernel)
